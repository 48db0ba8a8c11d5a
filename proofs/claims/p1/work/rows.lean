section
-- ===== PART A: goes FIRST, ahead of the names: the tables' words, and 'selects' of the private methods out of them =====
/-- a private method of a class that the tables say can be made, by its rows of tables_1 -/
def lw_okq (q : MethodName × Nat) : Prop := (q.1.cls ≠ "java/lang/invoke/MethodHandle" ∧ q.1.cls ≠ "java/lang/invoke/VarHandle") ∧ Cond.instantiable q.1.cls q.2 ∈ tables_1 ∧ Cond.privateMethod q.1 ∈ tables_1 ∧ Cond.instanceMethod q.1 ∈ tables_1
theorem lw_p0 : lw_okq (⟨"SevenTable", "putFour", "(I)V"⟩, 20) := ⟨⟨by decide +kernel, by decide +kernel⟩, List.mem_of_getElem? (i := 25) (by decide +kernel), List.mem_of_getElem? (i := 409) (by decide +kernel), List.mem_of_getElem? (i := 410) (by decide +kernel)⟩
theorem lw_p1 : lw_okq (⟨"SevenTable$Game", "takeCardsAway", "()V"⟩, 18) := ⟨⟨by decide +kernel, by decide +kernel⟩, List.mem_of_getElem? (i := 33) (by decide +kernel), List.mem_of_getElem? (i := 429) (by decide +kernel), List.mem_of_getElem? (i := 430) (by decide +kernel)⟩
theorem lw_p2 : lw_okq (⟨"SevenTable$Reader", "takeRun", "()Z"⟩, 11) := ⟨⟨by decide +kernel, by decide +kernel⟩, List.mem_of_getElem? (i := 166) (by decide +kernel), List.mem_of_getElem? (i := 445) (by decide +kernel), List.mem_of_getElem? (i := 446) (by decide +kernel)⟩
theorem lw_p3 : lw_okq (⟨"SevenTable$TableText", "readLine", "(LSevenTable$Game;)Z"⟩, 4) := ⟨⟨by decide +kernel, by decide +kernel⟩, List.mem_of_getElem? (i := 266) (by decide +kernel), List.mem_of_getElem? (i := 453) (by decide +kernel), List.mem_of_getElem? (i := 454) (by decide +kernel)⟩
theorem lw_p4 : lw_okq (⟨"SevenTable$TableText", "readKinds", "(LSevenTable$Game;)Z"⟩, 4) := ⟨⟨by decide +kernel, by decide +kernel⟩, List.mem_of_getElem? (i := 266) (by decide +kernel), List.mem_of_getElem? (i := 457) (by decide +kernel), List.mem_of_getElem? (i := 458) (by decide +kernel)⟩
theorem lw_p5 : lw_okq (⟨"SevenTable$TableText", "readPerson", "(LSevenTable$Game;)Z"⟩, 4) := ⟨⟨by decide +kernel, by decide +kernel⟩, List.mem_of_getElem? (i := 266) (by decide +kernel), List.mem_of_getElem? (i := 472) (by decide +kernel), List.mem_of_getElem? (i := 473) (by decide +kernel)⟩
theorem lw_p6 : lw_okq (⟨"SevenTable$TableText", "readHand", "(LSevenTable$Game;)Z"⟩, 4) := ⟨⟨by decide +kernel, by decide +kernel⟩, List.mem_of_getElem? (i := 266) (by decide +kernel), List.mem_of_getElem? (i := 484) (by decide +kernel), List.mem_of_getElem? (i := 485) (by decide +kernel)⟩
theorem lw_p7 : lw_okq (⟨"SevenTable$TableText", "readHeap", "(LSevenTable$Game;)Z"⟩, 4) := ⟨⟨by decide +kernel, by decide +kernel⟩, List.mem_of_getElem? (i := 266) (by decide +kernel), List.mem_of_getElem? (i := 501) (by decide +kernel), List.mem_of_getElem? (i := 502) (by decide +kernel)⟩
theorem lw_p8 : lw_okq (⟨"SevenTable$TableText", "readAgain", "(LSevenTable$Game;)Z"⟩, 4) := ⟨⟨by decide +kernel, by decide +kernel⟩, List.mem_of_getElem? (i := 266) (by decide +kernel), List.mem_of_getElem? (i := 509) (by decide +kernel), List.mem_of_getElem? (i := 510) (by decide +kernel)⟩
theorem lw_p9 : lw_okq (⟨"SevenTable$TableText", "readRefill", "(LSevenTable$Game;)Z"⟩, 4) := ⟨⟨by decide +kernel, by decide +kernel⟩, List.mem_of_getElem? (i := 266) (by decide +kernel), List.mem_of_getElem? (i := 513) (by decide +kernel), List.mem_of_getElem? (i := 514) (by decide +kernel)⟩
theorem lw_p10 : lw_okq (⟨"SevenTable$Game", "layDown", "(II)Z"⟩, 18) := ⟨⟨by decide +kernel, by decide +kernel⟩, List.mem_of_getElem? (i := 33) (by decide +kernel), List.mem_of_getElem? (i := 534) (by decide +kernel), List.mem_of_getElem? (i := 535) (by decide +kernel)⟩
theorem lw_p11 : lw_okq (⟨"SevenTable$Game", "settle", "(I)V"⟩, 18) := ⟨⟨by decide +kernel, by decide +kernel⟩, List.mem_of_getElem? (i := 33) (by decide +kernel), List.mem_of_getElem? (i := 552) (by decide +kernel), List.mem_of_getElem? (i := 553) (by decide +kernel)⟩
theorem lw_p12 : lw_okq (⟨"SevenTable$Game", "takeRefill", "(I)V"⟩, 18) := ⟨⟨by decide +kernel, by decide +kernel⟩, List.mem_of_getElem? (i := 33) (by decide +kernel), List.mem_of_getElem? (i := 556) (by decide +kernel), List.mem_of_getElem? (i := 557) (by decide +kernel)⟩
theorem lw_p13 : lw_okq (⟨"SevenTable$Game", "drawCard", "(IZ)Z"⟩, 18) := ⟨⟨by decide +kernel, by decide +kernel⟩, List.mem_of_getElem? (i := 33) (by decide +kernel), List.mem_of_getElem? (i := 560) (by decide +kernel), List.mem_of_getElem? (i := 561) (by decide +kernel)⟩
theorem lw_p14 : lw_okq (⟨"SevenTable$Game", "after", "(I)I"⟩, 18) := ⟨⟨by decide +kernel, by decide +kernel⟩, List.mem_of_getElem? (i := 33) (by decide +kernel), List.mem_of_getElem? (i := 564) (by decide +kernel), List.mem_of_getElem? (i := 565) (by decide +kernel)⟩
theorem lw_p15 : lw_okq (⟨"SevenTable", "areSuch", "(III)Z"⟩, 20) := ⟨⟨by decide +kernel, by decide +kernel⟩, List.mem_of_getElem? (i := 25) (by decide +kernel), List.mem_of_getElem? (i := 646) (by decide +kernel), List.mem_of_getElem? (i := 647) (by decide +kernel)⟩
def lw_privs_1 : List (MethodName × Nat) := [(⟨"SevenTable", "putFour", "(I)V"⟩, 20), (⟨"SevenTable$Game", "takeCardsAway", "()V"⟩, 18), (⟨"SevenTable$Reader", "takeRun", "()Z"⟩, 11), (⟨"SevenTable$TableText", "readLine", "(LSevenTable$Game;)Z"⟩, 4), (⟨"SevenTable$TableText", "readKinds", "(LSevenTable$Game;)Z"⟩, 4), (⟨"SevenTable$TableText", "readPerson", "(LSevenTable$Game;)Z"⟩, 4), (⟨"SevenTable$TableText", "readHand", "(LSevenTable$Game;)Z"⟩, 4), (⟨"SevenTable$TableText", "readHeap", "(LSevenTable$Game;)Z"⟩, 4), (⟨"SevenTable$TableText", "readAgain", "(LSevenTable$Game;)Z"⟩, 4), (⟨"SevenTable$TableText", "readRefill", "(LSevenTable$Game;)Z"⟩, 4), (⟨"SevenTable$Game", "layDown", "(II)Z"⟩, 18), (⟨"SevenTable$Game", "settle", "(I)V"⟩, 18), (⟨"SevenTable$Game", "takeRefill", "(I)V"⟩, 18), (⟨"SevenTable$Game", "drawCard", "(IZ)Z"⟩, 18), (⟨"SevenTable$Game", "after", "(I)I"⟩, 18), (⟨"SevenTable", "areSuch", "(III)Z"⟩, 20)]
theorem lw_r1 : ∀ q ∈ lw_privs_1, lw_okq q := List.forall_mem_cons.mpr ⟨lw_p0, List.forall_mem_cons.mpr ⟨lw_p1, List.forall_mem_cons.mpr ⟨lw_p2, List.forall_mem_cons.mpr ⟨lw_p3, List.forall_mem_cons.mpr ⟨lw_p4, List.forall_mem_cons.mpr ⟨lw_p5, List.forall_mem_cons.mpr ⟨lw_p6, List.forall_mem_cons.mpr ⟨lw_p7, List.forall_mem_cons.mpr ⟨lw_p8, List.forall_mem_cons.mpr ⟨lw_p9, List.forall_mem_cons.mpr ⟨lw_p10, List.forall_mem_cons.mpr ⟨lw_p11, List.forall_mem_cons.mpr ⟨lw_p12, List.forall_mem_cons.mpr ⟨lw_p13, List.forall_mem_cons.mpr ⟨lw_p14, List.forall_mem_cons.mpr ⟨lw_p15, fun _ h => absurd h List.not_mem_nil⟩⟩⟩⟩⟩⟩⟩⟩⟩⟩⟩⟩⟩⟩⟩⟩
theorem lw_p16 : lw_okq (⟨"SevenTable$Game", "give", "(III[I)I"⟩, 18) := ⟨⟨by decide +kernel, by decide +kernel⟩, List.mem_of_getElem? (i := 33) (by decide +kernel), List.mem_of_getElem? (i := 673) (by decide +kernel), List.mem_of_getElem? (i := 674) (by decide +kernel)⟩
theorem lw_p17 : lw_okq (⟨"SevenTable$Game", "sayNo", "(III[I)I"⟩, 18) := ⟨⟨by decide +kernel, by decide +kernel⟩, List.mem_of_getElem? (i := 33) (by decide +kernel), List.mem_of_getElem? (i := 681) (by decide +kernel), List.mem_of_getElem? (i := 682) (by decide +kernel)⟩
theorem lw_p18 : lw_okq (⟨"SevenTable", "takeOnlooker", "()LSevenTable$Odds;"⟩, 20) := ⟨⟨by decide +kernel, by decide +kernel⟩, List.mem_of_getElem? (i := 25) (by decide +kernel), List.mem_of_getElem? (i := 719) (by decide +kernel), List.mem_of_getElem? (i := 720) (by decide +kernel)⟩
theorem lw_p19 : lw_okq (⟨"SevenTable$Odds", "takeSlots", "(LSevenTable$Game;I)Z"⟩, 10) := ⟨⟨by decide +kernel, by decide +kernel⟩, List.mem_of_getElem? (i := 723) (by decide +kernel), List.mem_of_getElem? (i := 765) (by decide +kernel), List.mem_of_getElem? (i := 766) (by decide +kernel)⟩
theorem lw_p20 : lw_okq (⟨"SevenTable$Odds", "takeKinds", "(LSevenTable$Game;I)Z"⟩, 10) := ⟨⟨by decide +kernel, by decide +kernel⟩, List.mem_of_getElem? (i := 723) (by decide +kernel), List.mem_of_getElem? (i := 781) (by decide +kernel), List.mem_of_getElem? (i := 782) (by decide +kernel)⟩
theorem lw_p21 : lw_okq (⟨"SevenTable$Odds", "countWays", "(II)J"⟩, 10) := ⟨⟨by decide +kernel, by decide +kernel⟩, List.mem_of_getElem? (i := 723) (by decide +kernel), List.mem_of_getElem? (i := 795) (by decide +kernel), List.mem_of_getElem? (i := 796) (by decide +kernel)⟩
theorem lw_p22 : lw_okq (⟨"SevenTable$Odds", "layOut", "()I"⟩, 10) := ⟨⟨by decide +kernel, by decide +kernel⟩, List.mem_of_getElem? (i := 723) (by decide +kernel), List.mem_of_getElem? (i := 799) (by decide +kernel), List.mem_of_getElem? (i := 800) (by decide +kernel)⟩
theorem lw_p23 : lw_okq (⟨"SevenTable$Odds", "spread", "(II)V"⟩, 10) := ⟨⟨by decide +kernel, by decide +kernel⟩, List.mem_of_getElem? (i := 723) (by decide +kernel), List.mem_of_getElem? (i := 810) (by decide +kernel), List.mem_of_getElem? (i := 811) (by decide +kernel)⟩
theorem lw_p24 : lw_okq (⟨"SevenTable$Odds", "nextState", "()I"⟩, 10) := ⟨⟨by decide +kernel, by decide +kernel⟩, List.mem_of_getElem? (i := 723) (by decide +kernel), List.mem_of_getElem? (i := 814) (by decide +kernel), List.mem_of_getElem? (i := 815) (by decide +kernel)⟩
theorem lw_p25 : lw_okq (⟨"SevenTable$Odds", "indexOfKind", "(I)I"⟩, 10) := ⟨⟨by decide +kernel, by decide +kernel⟩, List.mem_of_getElem? (i := 723) (by decide +kernel), List.mem_of_getElem? (i := 827) (by decide +kernel), List.mem_of_getElem? (i := 828) (by decide +kernel)⟩
theorem lw_p26 : lw_okq (⟨"SevenTable", "sweepKind", "(II)V"⟩, 20) := ⟨⟨by decide +kernel, by decide +kernel⟩, List.mem_of_getElem? (i := 25) (by decide +kernel), List.mem_of_getElem? (i := 837) (by decide +kernel), List.mem_of_getElem? (i := 838) (by decide +kernel)⟩
theorem lw_p27 : lw_okq (⟨"SevenTable", "isOpen", "()Z"⟩, 20) := ⟨⟨by decide +kernel, by decide +kernel⟩, List.mem_of_getElem? (i := 25) (by decide +kernel), List.mem_of_getElem? (i := 854) (by decide +kernel), List.mem_of_getElem? (i := 855) (by decide +kernel)⟩
theorem lw_p28 : lw_okq (⟨"SevenTable", "takeDuel", "()LSevenTable$Duel;"⟩, 20) := ⟨⟨by decide +kernel, by decide +kernel⟩, List.mem_of_getElem? (i := 25) (by decide +kernel), List.mem_of_getElem? (i := 858) (by decide +kernel), List.mem_of_getElem? (i := 859) (by decide +kernel)⟩
theorem lw_p29 : lw_okq (⟨"SevenTable$Duel", "take", "(LSevenTable$Game;)I"⟩, 13) := ⟨⟨by decide +kernel, by decide +kernel⟩, List.mem_of_getElem? (i := 862) (by decide +kernel), List.mem_of_getElem? (i := 912) (by decide +kernel), List.mem_of_getElem? (i := 913) (by decide +kernel)⟩
theorem lw_p30 : lw_okq (⟨"SevenTable$Duel", "pack", "()I"⟩, 13) := ⟨⟨by decide +kernel, by decide +kernel⟩, List.mem_of_getElem? (i := 862) (by decide +kernel), List.mem_of_getElem? (i := 922) (by decide +kernel), List.mem_of_getElem? (i := 923) (by decide +kernel)⟩
theorem lw_p31 : lw_okq (⟨"SevenTable$Duel", "value", "(II)I"⟩, 13) := ⟨⟨by decide +kernel, by decide +kernel⟩, List.mem_of_getElem? (i := 862) (by decide +kernel), List.mem_of_getElem? (i := 927) (by decide +kernel), List.mem_of_getElem? (i := 928) (by decide +kernel)⟩
def lw_privs_2 : List (MethodName × Nat) := [(⟨"SevenTable$Game", "give", "(III[I)I"⟩, 18), (⟨"SevenTable$Game", "sayNo", "(III[I)I"⟩, 18), (⟨"SevenTable", "takeOnlooker", "()LSevenTable$Odds;"⟩, 20), (⟨"SevenTable$Odds", "takeSlots", "(LSevenTable$Game;I)Z"⟩, 10), (⟨"SevenTable$Odds", "takeKinds", "(LSevenTable$Game;I)Z"⟩, 10), (⟨"SevenTable$Odds", "countWays", "(II)J"⟩, 10), (⟨"SevenTable$Odds", "layOut", "()I"⟩, 10), (⟨"SevenTable$Odds", "spread", "(II)V"⟩, 10), (⟨"SevenTable$Odds", "nextState", "()I"⟩, 10), (⟨"SevenTable$Odds", "indexOfKind", "(I)I"⟩, 10), (⟨"SevenTable", "sweepKind", "(II)V"⟩, 20), (⟨"SevenTable", "isOpen", "()Z"⟩, 20), (⟨"SevenTable", "takeDuel", "()LSevenTable$Duel;"⟩, 20), (⟨"SevenTable$Duel", "take", "(LSevenTable$Game;)I"⟩, 13), (⟨"SevenTable$Duel", "pack", "()I"⟩, 13), (⟨"SevenTable$Duel", "value", "(II)I"⟩, 13)]
theorem lw_r2 : ∀ q ∈ lw_privs_2, lw_okq q := List.forall_mem_cons.mpr ⟨lw_p16, List.forall_mem_cons.mpr ⟨lw_p17, List.forall_mem_cons.mpr ⟨lw_p18, List.forall_mem_cons.mpr ⟨lw_p19, List.forall_mem_cons.mpr ⟨lw_p20, List.forall_mem_cons.mpr ⟨lw_p21, List.forall_mem_cons.mpr ⟨lw_p22, List.forall_mem_cons.mpr ⟨lw_p23, List.forall_mem_cons.mpr ⟨lw_p24, List.forall_mem_cons.mpr ⟨lw_p25, List.forall_mem_cons.mpr ⟨lw_p26, List.forall_mem_cons.mpr ⟨lw_p27, List.forall_mem_cons.mpr ⟨lw_p28, List.forall_mem_cons.mpr ⟨lw_p29, List.forall_mem_cons.mpr ⟨lw_p30, List.forall_mem_cons.mpr ⟨lw_p31, fun _ h => absurd h List.not_mem_nil⟩⟩⟩⟩⟩⟩⟩⟩⟩⟩⟩⟩⟩⟩⟩⟩
theorem lw_p32 : lw_okq (⟨"SevenTable$Duel", "unpack", "(I)V"⟩, 13) := ⟨⟨by decide +kernel, by decide +kernel⟩, List.mem_of_getElem? (i := 862) (by decide +kernel), List.mem_of_getElem? (i := 931) (by decide +kernel), List.mem_of_getElem? (i := 932) (by decide +kernel)⟩
theorem lw_p33 : lw_okq (⟨"SevenTable$Duel", "leftInHeap", "(I)I"⟩, 13) := ⟨⟨by decide +kernel, by decide +kernel⟩, List.mem_of_getElem? (i := 862) (by decide +kernel), List.mem_of_getElem? (i := 935) (by decide +kernel), List.mem_of_getElem? (i := 936) (by decide +kernel)⟩
theorem lw_p34 : lw_okq (⟨"SevenTable$Duel", "move", "(II)Z"⟩, 13) := ⟨⟨by decide +kernel, by decide +kernel⟩, List.mem_of_getElem? (i := 862) (by decide +kernel), List.mem_of_getElem? (i := 939) (by decide +kernel), List.mem_of_getElem? (i := 940) (by decide +kernel)⟩
theorem lw_p35 : lw_okq (⟨"SevenTable$Duel", "layDown", "(II)V"⟩, 13) := ⟨⟨by decide +kernel, by decide +kernel⟩, List.mem_of_getElem? (i := 862) (by decide +kernel), List.mem_of_getElem? (i := 943) (by decide +kernel), List.mem_of_getElem? (i := 944) (by decide +kernel)⟩
theorem lw_p36 : lw_okq (⟨"SevenTable$Duel", "drawCard", "(I)V"⟩, 13) := ⟨⟨by decide +kernel, by decide +kernel⟩, List.mem_of_getElem? (i := 862) (by decide +kernel), List.mem_of_getElem? (i := 947) (by decide +kernel), List.mem_of_getElem? (i := 948) (by decide +kernel)⟩
theorem lw_p37 : lw_okq (⟨"SevenTable$Duel", "settle", "(I)Z"⟩, 13) := ⟨⟨by decide +kernel, by decide +kernel⟩, List.mem_of_getElem? (i := 862) (by decide +kernel), List.mem_of_getElem? (i := 951) (by decide +kernel), List.mem_of_getElem? (i := 952) (by decide +kernel)⟩
theorem lw_p38 : lw_okq (⟨"SevenTable$Duel", "cardsOf", "(I)I"⟩, 13) := ⟨⟨by decide +kernel, by decide +kernel⟩, List.mem_of_getElem? (i := 862) (by decide +kernel), List.mem_of_getElem? (i := 955) (by decide +kernel), List.mem_of_getElem? (i := 956) (by decide +kernel)⟩
theorem lw_p39 : lw_okq (⟨"SevenTable", "isRule", "(I)Z"⟩, 20) := ⟨⟨by decide +kernel, by decide +kernel⟩, List.mem_of_getElem? (i := 25) (by decide +kernel), List.mem_of_getElem? (i := 971) (by decide +kernel), List.mem_of_getElem? (i := 972) (by decide +kernel)⟩
theorem lw_p40 : lw_okq (⟨"SevenTable$Game", "richest", "(I)I"⟩, 18) := ⟨⟨by decide +kernel, by decide +kernel⟩, List.mem_of_getElem? (i := 33) (by decide +kernel), List.mem_of_getElem? (i := 979) (by decide +kernel), List.mem_of_getElem? (i := 980) (by decide +kernel)⟩
theorem lw_p41 : lw_okq (⟨"SevenTable$Game", "mostHeld", "(I)I"⟩, 18) := ⟨⟨by decide +kernel, by decide +kernel⟩, List.mem_of_getElem? (i := 33) (by decide +kernel), List.mem_of_getElem? (i := 983) (by decide +kernel), List.mem_of_getElem? (i := 984) (by decide +kernel)⟩
theorem lw_p42 : lw_okq (⟨"SevenTable$Game", "firstSure", "(I)I"⟩, 18) := ⟨⟨by decide +kernel, by decide +kernel⟩, List.mem_of_getElem? (i := 33) (by decide +kernel), List.mem_of_getElem? (i := 987) (by decide +kernel), List.mem_of_getElem? (i := 988) (by decide +kernel)⟩
theorem lw_p43 : lw_okq (⟨"SevenTable$Game", "nextWithCard", "(I)I"⟩, 18) := ⟨⟨by decide +kernel, by decide +kernel⟩, List.mem_of_getElem? (i := 33) (by decide +kernel), List.mem_of_getElem? (i := 992) (by decide +kernel), List.mem_of_getElem? (i := 993) (by decide +kernel)⟩
theorem lw_p44 : lw_okq (⟨"SevenTable$Game", "leastKind", "(I)I"⟩, 18) := ⟨⟨by decide +kernel, by decide +kernel⟩, List.mem_of_getElem? (i := 33) (by decide +kernel), List.mem_of_getElem? (i := 996) (by decide +kernel), List.mem_of_getElem? (i := 997) (by decide +kernel)⟩
theorem lw_p45 : lw_okq (⟨"SevenTable", "hasRulesOnTape", "()Z"⟩, 20) := ⟨⟨by decide +kernel, by decide +kernel⟩, List.mem_of_getElem? (i := 25) (by decide +kernel), List.mem_of_getElem? (i := 1004) (by decide +kernel), List.mem_of_getElem? (i := 1005) (by decide +kernel)⟩
theorem lw_p46 : lw_okq (⟨"SevenTable", "areGames", "(III)Z"⟩, 20) := ⟨⟨by decide +kernel, by decide +kernel⟩, List.mem_of_getElem? (i := 25) (by decide +kernel), List.mem_of_getElem? (i := 1026) (by decide +kernel), List.mem_of_getElem? (i := 1027) (by decide +kernel)⟩
theorem lw_p47 : lw_okq (⟨"SevenTable", "playGames", "(IIIIZ)I"⟩, 20) := ⟨⟨by decide +kernel, by decide +kernel⟩, List.mem_of_getElem? (i := 25) (by decide +kernel), List.mem_of_getElem? (i := 1030) (by decide +kernel), List.mem_of_getElem? (i := 1031) (by decide +kernel)⟩
def lw_privs_3 : List (MethodName × Nat) := [(⟨"SevenTable$Duel", "unpack", "(I)V"⟩, 13), (⟨"SevenTable$Duel", "leftInHeap", "(I)I"⟩, 13), (⟨"SevenTable$Duel", "move", "(II)Z"⟩, 13), (⟨"SevenTable$Duel", "layDown", "(II)V"⟩, 13), (⟨"SevenTable$Duel", "drawCard", "(I)V"⟩, 13), (⟨"SevenTable$Duel", "settle", "(I)Z"⟩, 13), (⟨"SevenTable$Duel", "cardsOf", "(I)I"⟩, 13), (⟨"SevenTable", "isRule", "(I)Z"⟩, 20), (⟨"SevenTable$Game", "richest", "(I)I"⟩, 18), (⟨"SevenTable$Game", "mostHeld", "(I)I"⟩, 18), (⟨"SevenTable$Game", "firstSure", "(I)I"⟩, 18), (⟨"SevenTable$Game", "nextWithCard", "(I)I"⟩, 18), (⟨"SevenTable$Game", "leastKind", "(I)I"⟩, 18), (⟨"SevenTable", "hasRulesOnTape", "()Z"⟩, 20), (⟨"SevenTable", "areGames", "(III)Z"⟩, 20), (⟨"SevenTable", "playGames", "(IIIIZ)I"⟩, 20)]
theorem lw_r3 : ∀ q ∈ lw_privs_3, lw_okq q := List.forall_mem_cons.mpr ⟨lw_p32, List.forall_mem_cons.mpr ⟨lw_p33, List.forall_mem_cons.mpr ⟨lw_p34, List.forall_mem_cons.mpr ⟨lw_p35, List.forall_mem_cons.mpr ⟨lw_p36, List.forall_mem_cons.mpr ⟨lw_p37, List.forall_mem_cons.mpr ⟨lw_p38, List.forall_mem_cons.mpr ⟨lw_p39, List.forall_mem_cons.mpr ⟨lw_p40, List.forall_mem_cons.mpr ⟨lw_p41, List.forall_mem_cons.mpr ⟨lw_p42, List.forall_mem_cons.mpr ⟨lw_p43, List.forall_mem_cons.mpr ⟨lw_p44, List.forall_mem_cons.mpr ⟨lw_p45, List.forall_mem_cons.mpr ⟨lw_p46, List.forall_mem_cons.mpr ⟨lw_p47, fun _ h => absurd h List.not_mem_nil⟩⟩⟩⟩⟩⟩⟩⟩⟩⟩⟩⟩⟩⟩⟩⟩
theorem lw_p48 : lw_okq (⟨"SevenTable$EveningText", "readLine", "(LSevenTable$Game;)Z"⟩, 3) := ⟨⟨by decide +kernel, by decide +kernel⟩, List.mem_of_getElem? (i := 286) (by decide +kernel), List.mem_of_getElem? (i := 1060) (by decide +kernel), List.mem_of_getElem? (i := 1061) (by decide +kernel)⟩
theorem lw_p49 : lw_okq (⟨"SevenTable$EveningText", "readAnswer", "()Z"⟩, 3) := ⟨⟨by decide +kernel, by decide +kernel⟩, List.mem_of_getElem? (i := 286) (by decide +kernel), List.mem_of_getElem? (i := 1070) (by decide +kernel), List.mem_of_getElem? (i := 1071) (by decide +kernel)⟩
theorem lw_p50 : lw_okq (⟨"SevenTable", "judge", "()I"⟩, 20) := ⟨⟨by decide +kernel, by decide +kernel⟩, List.mem_of_getElem? (i := 25) (by decide +kernel), List.mem_of_getElem? (i := 1074) (by decide +kernel), List.mem_of_getElem? (i := 1075) (by decide +kernel)⟩
theorem lw_p51 : lw_okq (⟨"SevenTable$SentenceText", "readCond", "(LSevenTable$Game;I)Z"⟩, 3) := ⟨⟨by decide +kernel, by decide +kernel⟩, List.mem_of_getElem? (i := 303) (by decide +kernel), List.mem_of_getElem? (i := 1109) (by decide +kernel), List.mem_of_getElem? (i := 1110) (by decide +kernel)⟩
theorem lw_p52 : lw_okq (⟨"SevenTable$SentenceText", "readAll", "(LSevenTable$Game;I)Z"⟩, 3) := ⟨⟨by decide +kernel, by decide +kernel⟩, List.mem_of_getElem? (i := 303) (by decide +kernel), List.mem_of_getElem? (i := 1113) (by decide +kernel), List.mem_of_getElem? (i := 1114) (by decide +kernel)⟩
theorem lw_p53 : lw_okq (⟨"SevenTable$SentenceText", "readOne", "(LSevenTable$Game;I)Z"⟩, 3) := ⟨⟨by decide +kernel, by decide +kernel⟩, List.mem_of_getElem? (i := 303) (by decide +kernel), List.mem_of_getElem? (i := 1117) (by decide +kernel), List.mem_of_getElem? (i := 1118) (by decide +kernel)⟩
theorem lw_p54 : lw_okq (⟨"SevenTable$SentenceText", "beginsOne", "()Z"⟩, 3) := ⟨⟨by decide +kernel, by decide +kernel⟩, List.mem_of_getElem? (i := 303) (by decide +kernel), List.mem_of_getElem? (i := 1121) (by decide +kernel), List.mem_of_getElem? (i := 1122) (by decide +kernel)⟩
theorem lw_p55 : lw_okq (⟨"SevenTable$SentenceText", "readPerson", "(LSevenTable$Game;I)Z"⟩, 3) := ⟨⟨by decide +kernel, by decide +kernel⟩, List.mem_of_getElem? (i := 303) (by decide +kernel), List.mem_of_getElem? (i := 1128) (by decide +kernel), List.mem_of_getElem? (i := 1129) (by decide +kernel)⟩
theorem lw_p56 : lw_okq (⟨"SevenTable$SentenceText", "readMeasure", "(I)Z"⟩, 3) := ⟨⟨by decide +kernel, by decide +kernel⟩, List.mem_of_getElem? (i := 303) (by decide +kernel), List.mem_of_getElem? (i := 1138) (by decide +kernel), List.mem_of_getElem? (i := 1139) (by decide +kernel)⟩
theorem lw_p57 : lw_okq (⟨"java/lang/Throwable", "fillInStackTrace", "(I)Ljava/lang/Throwable;"⟩, 6) := ⟨⟨by decide +kernel, by decide +kernel⟩, List.mem_of_getElem? (i := 1230) (by decide +kernel), List.mem_of_getElem? (i := 1228) (by decide +kernel), List.mem_of_getElem? (i := 1229) (by decide +kernel)⟩
theorem lw_p58 : lw_okq (⟨"SevenTableModel", "four", "(I)V"⟩, 65) := ⟨⟨by decide +kernel, by decide +kernel⟩, List.mem_of_getElem? (i := 1295) (by decide +kernel), List.mem_of_getElem? (i := 1293) (by decide +kernel), List.mem_of_getElem? (i := 1294) (by decide +kernel)⟩
theorem lw_p59 : lw_okq (⟨"SevenTableModel", "taken", "(I)V"⟩, 65) := ⟨⟨by decide +kernel, by decide +kernel⟩, List.mem_of_getElem? (i := 1295) (by decide +kernel), List.mem_of_getElem? (i := 1528) (by decide +kernel), List.mem_of_getElem? (i := 1529) (by decide +kernel)⟩
theorem lw_p60 : lw_okq (⟨"SevenTableModel", "next", "()V"⟩, 65) := ⟨⟨by decide +kernel, by decide +kernel⟩, List.mem_of_getElem? (i := 1295) (by decide +kernel), List.mem_of_getElem? (i := 1532) (by decide +kernel), List.mem_of_getElem? (i := 1533) (by decide +kernel)⟩
theorem lw_p61 : lw_okq (⟨"SevenTableModel", "peek", "()I"⟩, 65) := ⟨⟨by decide +kernel, by decide +kernel⟩, List.mem_of_getElem? (i := 1295) (by decide +kernel), List.mem_of_getElem? (i := 1536) (by decide +kernel), List.mem_of_getElem? (i := 1537) (by decide +kernel)⟩
theorem lw_p62 : lw_okq (⟨"SevenTableModel", "line", "()Z"⟩, 65) := ⟨⟨by decide +kernel, by decide +kernel⟩, List.mem_of_getElem? (i := 1295) (by decide +kernel), List.mem_of_getElem? (i := 1546) (by decide +kernel), List.mem_of_getElem? (i := 1547) (by decide +kernel)⟩
theorem lw_p63 : lw_okq (⟨"SevenTableModel", "isWord", "(J)Z"⟩, 65) := ⟨⟨by decide +kernel, by decide +kernel⟩, List.mem_of_getElem? (i := 1295) (by decide +kernel), List.mem_of_getElem? (i := 1550) (by decide +kernel), List.mem_of_getElem? (i := 1551) (by decide +kernel)⟩
def lw_privs_4 : List (MethodName × Nat) := [(⟨"SevenTable$EveningText", "readLine", "(LSevenTable$Game;)Z"⟩, 3), (⟨"SevenTable$EveningText", "readAnswer", "()Z"⟩, 3), (⟨"SevenTable", "judge", "()I"⟩, 20), (⟨"SevenTable$SentenceText", "readCond", "(LSevenTable$Game;I)Z"⟩, 3), (⟨"SevenTable$SentenceText", "readAll", "(LSevenTable$Game;I)Z"⟩, 3), (⟨"SevenTable$SentenceText", "readOne", "(LSevenTable$Game;I)Z"⟩, 3), (⟨"SevenTable$SentenceText", "beginsOne", "()Z"⟩, 3), (⟨"SevenTable$SentenceText", "readPerson", "(LSevenTable$Game;I)Z"⟩, 3), (⟨"SevenTable$SentenceText", "readMeasure", "(I)Z"⟩, 3), (⟨"java/lang/Throwable", "fillInStackTrace", "(I)Ljava/lang/Throwable;"⟩, 6), (⟨"SevenTableModel", "four", "(I)V"⟩, 65), (⟨"SevenTableModel", "taken", "(I)V"⟩, 65), (⟨"SevenTableModel", "next", "()V"⟩, 65), (⟨"SevenTableModel", "peek", "()I"⟩, 65), (⟨"SevenTableModel", "line", "()Z"⟩, 65), (⟨"SevenTableModel", "isWord", "(J)Z"⟩, 65)]
theorem lw_r4 : ∀ q ∈ lw_privs_4, lw_okq q := List.forall_mem_cons.mpr ⟨lw_p48, List.forall_mem_cons.mpr ⟨lw_p49, List.forall_mem_cons.mpr ⟨lw_p50, List.forall_mem_cons.mpr ⟨lw_p51, List.forall_mem_cons.mpr ⟨lw_p52, List.forall_mem_cons.mpr ⟨lw_p53, List.forall_mem_cons.mpr ⟨lw_p54, List.forall_mem_cons.mpr ⟨lw_p55, List.forall_mem_cons.mpr ⟨lw_p56, List.forall_mem_cons.mpr ⟨lw_p57, List.forall_mem_cons.mpr ⟨lw_p58, List.forall_mem_cons.mpr ⟨lw_p59, List.forall_mem_cons.mpr ⟨lw_p60, List.forall_mem_cons.mpr ⟨lw_p61, List.forall_mem_cons.mpr ⟨lw_p62, List.forall_mem_cons.mpr ⟨lw_p63, fun _ h => absurd h List.not_mem_nil⟩⟩⟩⟩⟩⟩⟩⟩⟩⟩⟩⟩⟩⟩⟩⟩
theorem lw_p64 : lw_okq (⟨"SevenTableModel", "bad", "(I)Z"⟩, 65) := ⟨⟨by decide +kernel, by decide +kernel⟩, List.mem_of_getElem? (i := 1295) (by decide +kernel), List.mem_of_getElem? (i := 1554) (by decide +kernel), List.mem_of_getElem? (i := 1555) (by decide +kernel)⟩
theorem lw_p65 : lw_okq (⟨"SevenTableModel", "takes", "(II)Z"⟩, 65) := ⟨⟨by decide +kernel, by decide +kernel⟩, List.mem_of_getElem? (i := 1295) (by decide +kernel), List.mem_of_getElem? (i := 1558) (by decide +kernel), List.mem_of_getElem? (i := 1559) (by decide +kernel)⟩
theorem lw_p66 : lw_okq (⟨"SevenTableModel", "isName", "()Z"⟩, 65) := ⟨⟨by decide +kernel, by decide +kernel⟩, List.mem_of_getElem? (i := 1295) (by decide +kernel), List.mem_of_getElem? (i := 1565) (by decide +kernel), List.mem_of_getElem? (i := 1566) (by decide +kernel)⟩
theorem lw_p67 : lw_okq (⟨"SevenTableModel", "find", "(II)I"⟩, 65) := ⟨⟨by decide +kernel, by decide +kernel⟩, List.mem_of_getElem? (i := 1295) (by decide +kernel), List.mem_of_getElem? (i := 1569) (by decide +kernel), List.mem_of_getElem? (i := 1570) (by decide +kernel)⟩
theorem lw_p68 : lw_okq (⟨"SevenTableModel", "readHand", "()Z"⟩, 65) := ⟨⟨by decide +kernel, by decide +kernel⟩, List.mem_of_getElem? (i := 1295) (by decide +kernel), List.mem_of_getElem? (i := 1573) (by decide +kernel), List.mem_of_getElem? (i := 1574) (by decide +kernel)⟩
theorem lw_p69 : lw_okq (⟨"SevenTableModel", "readHeap", "()Z"⟩, 65) := ⟨⟨by decide +kernel, by decide +kernel⟩, List.mem_of_getElem? (i := 1295) (by decide +kernel), List.mem_of_getElem? (i := 1577) (by decide +kernel), List.mem_of_getElem? (i := 1578) (by decide +kernel)⟩
theorem lw_p70 : lw_okq (⟨"SevenTableModel", "isSign", "(I)Z"⟩, 65) := ⟨⟨by decide +kernel, by decide +kernel⟩, List.mem_of_getElem? (i := 1295) (by decide +kernel), List.mem_of_getElem? (i := 1581) (by decide +kernel), List.mem_of_getElem? (i := 1582) (by decide +kernel)⟩
theorem lw_p71 : lw_okq (⟨"SevenTableModel", "sign", "(I)Z"⟩, 65) := ⟨⟨by decide +kernel, by decide +kernel⟩, List.mem_of_getElem? (i := 1295) (by decide +kernel), List.mem_of_getElem? (i := 1585) (by decide +kernel), List.mem_of_getElem? (i := 1586) (by decide +kernel)⟩
theorem lw_p72 : lw_okq (⟨"SevenTableModel", "begins", "()V"⟩, 65) := ⟨⟨by decide +kernel, by decide +kernel⟩, List.mem_of_getElem? (i := 1295) (by decide +kernel), List.mem_of_getElem? (i := 1589) (by decide +kernel), List.mem_of_getElem? (i := 1590) (by decide +kernel)⟩
theorem lw_p73 : lw_okq (⟨"SevenTableModel", "cards", "(I)I"⟩, 65) := ⟨⟨by decide +kernel, by decide +kernel⟩, List.mem_of_getElem? (i := 1295) (by decide +kernel), List.mem_of_getElem? (i := 1593) (by decide +kernel), List.mem_of_getElem? (i := 1594) (by decide +kernel)⟩
theorem lw_p74 : lw_okq (⟨"SevenTableModel", "adds", "(II)V"⟩, 65) := ⟨⟨by decide +kernel, by decide +kernel⟩, List.mem_of_getElem? (i := 1295) (by decide +kernel), List.mem_of_getElem? (i := 1597) (by decide +kernel), List.mem_of_getElem? (i := 1598) (by decide +kernel)⟩
theorem lw_p75 : lw_okq (⟨"SevenTableModel", "books", "(II)Z"⟩, 65) := ⟨⟨by decide +kernel, by decide +kernel⟩, List.mem_of_getElem? (i := 1295) (by decide +kernel), List.mem_of_getElem? (i := 1601) (by decide +kernel), List.mem_of_getElem? (i := 1602) (by decide +kernel)⟩
theorem lw_p76 : lw_okq (⟨"SevenTableModel", "handOf", "(III)I"⟩, 65) := ⟨⟨by decide +kernel, by decide +kernel⟩, List.mem_of_getElem? (i := 1295) (by decide +kernel), List.mem_of_getElem? (i := 1605) (by decide +kernel), List.mem_of_getElem? (i := 1606) (by decide +kernel)⟩
theorem lw_p77 : lw_okq (⟨"SevenTableModel", "learns", "(II)V"⟩, 65) := ⟨⟨by decide +kernel, by decide +kernel⟩, List.mem_of_getElem? (i := 1295) (by decide +kernel), List.mem_of_getElem? (i := 1609) (by decide +kernel), List.mem_of_getElem? (i := 1610) (by decide +kernel)⟩
theorem lw_p78 : lw_okq (⟨"SevenTableModel", "settles", "(I)V"⟩, 65) := ⟨⟨by decide +kernel, by decide +kernel⟩, List.mem_of_getElem? (i := 1295) (by decide +kernel), List.mem_of_getElem? (i := 1616) (by decide +kernel), List.mem_of_getElem? (i := 1617) (by decide +kernel)⟩
theorem lw_p79 : lw_okq (⟨"SevenTableModel", "refills", "(I)V"⟩, 65) := ⟨⟨by decide +kernel, by decide +kernel⟩, List.mem_of_getElem? (i := 1295) (by decide +kernel), List.mem_of_getElem? (i := 1620) (by decide +kernel), List.mem_of_getElem? (i := 1621) (by decide +kernel)⟩
def lw_privs_5 : List (MethodName × Nat) := [(⟨"SevenTableModel", "bad", "(I)Z"⟩, 65), (⟨"SevenTableModel", "takes", "(II)Z"⟩, 65), (⟨"SevenTableModel", "isName", "()Z"⟩, 65), (⟨"SevenTableModel", "find", "(II)I"⟩, 65), (⟨"SevenTableModel", "readHand", "()Z"⟩, 65), (⟨"SevenTableModel", "readHeap", "()Z"⟩, 65), (⟨"SevenTableModel", "isSign", "(I)Z"⟩, 65), (⟨"SevenTableModel", "sign", "(I)Z"⟩, 65), (⟨"SevenTableModel", "begins", "()V"⟩, 65), (⟨"SevenTableModel", "cards", "(I)I"⟩, 65), (⟨"SevenTableModel", "adds", "(II)V"⟩, 65), (⟨"SevenTableModel", "books", "(II)Z"⟩, 65), (⟨"SevenTableModel", "handOf", "(III)I"⟩, 65), (⟨"SevenTableModel", "learns", "(II)V"⟩, 65), (⟨"SevenTableModel", "settles", "(I)V"⟩, 65), (⟨"SevenTableModel", "refills", "(I)V"⟩, 65)]
theorem lw_r5 : ∀ q ∈ lw_privs_5, lw_okq q := List.forall_mem_cons.mpr ⟨lw_p64, List.forall_mem_cons.mpr ⟨lw_p65, List.forall_mem_cons.mpr ⟨lw_p66, List.forall_mem_cons.mpr ⟨lw_p67, List.forall_mem_cons.mpr ⟨lw_p68, List.forall_mem_cons.mpr ⟨lw_p69, List.forall_mem_cons.mpr ⟨lw_p70, List.forall_mem_cons.mpr ⟨lw_p71, List.forall_mem_cons.mpr ⟨lw_p72, List.forall_mem_cons.mpr ⟨lw_p73, List.forall_mem_cons.mpr ⟨lw_p74, List.forall_mem_cons.mpr ⟨lw_p75, List.forall_mem_cons.mpr ⟨lw_p76, List.forall_mem_cons.mpr ⟨lw_p77, List.forall_mem_cons.mpr ⟨lw_p78, List.forall_mem_cons.mpr ⟨lw_p79, fun _ h => absurd h List.not_mem_nil⟩⟩⟩⟩⟩⟩⟩⟩⟩⟩⟩⟩⟩⟩⟩⟩
theorem lw_p80 : lw_okq (⟨"SevenTableModel", "draws", "(I)I"⟩, 65) := ⟨⟨by decide +kernel, by decide +kernel⟩, List.mem_of_getElem? (i := 1295) (by decide +kernel), List.mem_of_getElem? (i := 1624) (by decide +kernel), List.mem_of_getElem? (i := 1625) (by decide +kernel)⟩
theorem lw_p81 : lw_okq (⟨"SevenTableModel", "isPerson", "(I)Z"⟩, 65) := ⟨⟨by decide +kernel, by decide +kernel⟩, List.mem_of_getElem? (i := 1295) (by decide +kernel), List.mem_of_getElem? (i := 1636) (by decide +kernel), List.mem_of_getElem? (i := 1637) (by decide +kernel)⟩
theorem lw_p82 : lw_okq (⟨"SevenTableModel", "isKind", "(I)Z"⟩, 65) := ⟨⟨by decide +kernel, by decide +kernel⟩, List.mem_of_getElem? (i := 1295) (by decide +kernel), List.mem_of_getElem? (i := 1640) (by decide +kernel), List.mem_of_getElem? (i := 1641) (by decide +kernel)⟩
theorem lw_p83 : lw_okq (⟨"SevenTableModel", "throwsIf", "(Z)Z"⟩, 65) := ⟨⟨by decide +kernel, by decide +kernel⟩, List.mem_of_getElem? (i := 1295) (by decide +kernel), List.mem_of_getElem? (i := 1644) (by decide +kernel), List.mem_of_getElem? (i := 1645) (by decide +kernel)⟩
theorem lw_p84 : lw_okq (⟨"SevenTableModel", "booksOf", "(I)I"⟩, 65) := ⟨⟨by decide +kernel, by decide +kernel⟩, List.mem_of_getElem? (i := 1295) (by decide +kernel), List.mem_of_getElem? (i := 1652) (by decide +kernel), List.mem_of_getElem? (i := 1653) (by decide +kernel)⟩
theorem lw_p85 : lw_okq (⟨"SevenTableModel", "allBooks", "()I"⟩, 65) := ⟨⟨by decide +kernel, by decide +kernel⟩, List.mem_of_getElem? (i := 1295) (by decide +kernel), List.mem_of_getElem? (i := 1668) (by decide +kernel), List.mem_of_getElem? (i := 1669) (by decide +kernel)⟩
theorem lw_p86 : lw_okq (⟨"SevenTableModel", "areAsked", "(III)Z"⟩, 65) := ⟨⟨by decide +kernel, by decide +kernel⟩, List.mem_of_getElem? (i := 1295) (by decide +kernel), List.mem_of_getElem? (i := 1676) (by decide +kernel), List.mem_of_getElem? (i := 1677) (by decide +kernel)⟩
theorem lw_p87 : lw_okq (⟨"SevenTableModel", "whyOf", "(III)I"⟩, 65) := ⟨⟨by decide +kernel, by decide +kernel⟩, List.mem_of_getElem? (i := 1295) (by decide +kernel), List.mem_of_getElem? (i := 1680) (by decide +kernel), List.mem_of_getElem? (i := 1681) (by decide +kernel)⟩
theorem lw_p88 : lw_okq (⟨"SevenTableModel", "keep", "()V"⟩, 65) := ⟨⟨by decide +kernel, by decide +kernel⟩, List.mem_of_getElem? (i := 1295) (by decide +kernel), List.mem_of_getElem? (i := 1688) (by decide +kernel), List.mem_of_getElem? (i := 1689) (by decide +kernel)⟩
theorem lw_p89 : lw_okq (⟨"SevenTableModel", "asks", "(IIIIZ)I"⟩, 65) := ⟨⟨by decide +kernel, by decide +kernel⟩, List.mem_of_getElem? (i := 1295) (by decide +kernel), List.mem_of_getElem? (i := 1692) (by decide +kernel), List.mem_of_getElem? (i := 1693) (by decide +kernel)⟩
theorem lw_p90 : lw_okq (⟨"SevenTableModel", "sureOf", "(II)I"⟩, 65) := ⟨⟨by decide +kernel, by decide +kernel⟩, List.mem_of_getElem? (i := 1295) (by decide +kernel), List.mem_of_getElem? (i := 1696) (by decide +kernel), List.mem_of_getElem? (i := 1697) (by decide +kernel)⟩
theorem lw_p91 : lw_okq (⟨"SevenTableModel", "cannot", "(II)V"⟩, 65) := ⟨⟨by decide +kernel, by decide +kernel⟩, List.mem_of_getElem? (i := 1295) (by decide +kernel), List.mem_of_getElem? (i := 1700) (by decide +kernel), List.mem_of_getElem? (i := 1701) (by decide +kernel)⟩
theorem lw_p92 : lw_okq (⟨"SevenTableModel", "looks", "(I)Z"⟩, 65) := ⟨⟨by decide +kernel, by decide +kernel⟩, List.mem_of_getElem? (i := 1295) (by decide +kernel), List.mem_of_getElem? (i := 1724) (by decide +kernel), List.mem_of_getElem? (i := 1725) (by decide +kernel)⟩
theorem lw_p93 : lw_okq (⟨"SevenTableModel", "waysOf", "(III)J"⟩, 65) := ⟨⟨by decide +kernel, by decide +kernel⟩, List.mem_of_getElem? (i := 1295) (by decide +kernel), List.mem_of_getElem? (i := 1728) (by decide +kernel), List.mem_of_getElem? (i := 1729) (by decide +kernel)⟩
theorem lw_p94 : lw_okq (⟨"SevenTableModel", "inHands", "(I)I"⟩, 65) := ⟨⟨by decide +kernel, by decide +kernel⟩, List.mem_of_getElem? (i := 1295) (by decide +kernel), List.mem_of_getElem? (i := 1762) (by decide +kernel), List.mem_of_getElem? (i := 1763) (by decide +kernel)⟩
theorem lw_p95 : lw_okq (⟨"SevenTableModel", "openOf", "()I"⟩, 65) := ⟨⟨by decide +kernel, by decide +kernel⟩, List.mem_of_getElem? (i := 1295) (by decide +kernel), List.mem_of_getElem? (i := 1770) (by decide +kernel), List.mem_of_getElem? (i := 1771) (by decide +kernel)⟩
def lw_privs_6 : List (MethodName × Nat) := [(⟨"SevenTableModel", "draws", "(I)I"⟩, 65), (⟨"SevenTableModel", "isPerson", "(I)Z"⟩, 65), (⟨"SevenTableModel", "isKind", "(I)Z"⟩, 65), (⟨"SevenTableModel", "throwsIf", "(Z)Z"⟩, 65), (⟨"SevenTableModel", "booksOf", "(I)I"⟩, 65), (⟨"SevenTableModel", "allBooks", "()I"⟩, 65), (⟨"SevenTableModel", "areAsked", "(III)Z"⟩, 65), (⟨"SevenTableModel", "whyOf", "(III)I"⟩, 65), (⟨"SevenTableModel", "keep", "()V"⟩, 65), (⟨"SevenTableModel", "asks", "(IIIIZ)I"⟩, 65), (⟨"SevenTableModel", "sureOf", "(II)I"⟩, 65), (⟨"SevenTableModel", "cannot", "(II)V"⟩, 65), (⟨"SevenTableModel", "looks", "(I)Z"⟩, 65), (⟨"SevenTableModel", "waysOf", "(III)J"⟩, 65), (⟨"SevenTableModel", "inHands", "(I)I"⟩, 65), (⟨"SevenTableModel", "openOf", "()I"⟩, 65)]
theorem lw_r6 : ∀ q ∈ lw_privs_6, lw_okq q := List.forall_mem_cons.mpr ⟨lw_p80, List.forall_mem_cons.mpr ⟨lw_p81, List.forall_mem_cons.mpr ⟨lw_p82, List.forall_mem_cons.mpr ⟨lw_p83, List.forall_mem_cons.mpr ⟨lw_p84, List.forall_mem_cons.mpr ⟨lw_p85, List.forall_mem_cons.mpr ⟨lw_p86, List.forall_mem_cons.mpr ⟨lw_p87, List.forall_mem_cons.mpr ⟨lw_p88, List.forall_mem_cons.mpr ⟨lw_p89, List.forall_mem_cons.mpr ⟨lw_p90, List.forall_mem_cons.mpr ⟨lw_p91, List.forall_mem_cons.mpr ⟨lw_p92, List.forall_mem_cons.mpr ⟨lw_p93, List.forall_mem_cons.mpr ⟨lw_p94, List.forall_mem_cons.mpr ⟨lw_p95, fun _ h => absurd h List.not_mem_nil⟩⟩⟩⟩⟩⟩⟩⟩⟩⟩⟩⟩⟩⟩⟩⟩
theorem lw_p96 : lw_okq (⟨"SevenTableModel", "codeOf", "(Z)I"⟩, 65) := ⟨⟨by decide +kernel, by decide +kernel⟩, List.mem_of_getElem? (i := 1295) (by decide +kernel), List.mem_of_getElem? (i := 1774) (by decide +kernel), List.mem_of_getElem? (i := 1775) (by decide +kernel)⟩
theorem lw_p97 : lw_okq (⟨"SevenTableModel", "lacks", "(I)I"⟩, 65) := ⟨⟨by decide +kernel, by decide +kernel⟩, List.mem_of_getElem? (i := 1295) (by decide +kernel), List.mem_of_getElem? (i := 1778) (by decide +kernel), List.mem_of_getElem? (i := 1779) (by decide +kernel)⟩
theorem lw_p98 : lw_okq (⟨"SevenTableModel", "decode", "(I)V"⟩, 65) := ⟨⟨by decide +kernel, by decide +kernel⟩, List.mem_of_getElem? (i := 1295) (by decide +kernel), List.mem_of_getElem? (i := 1782) (by decide +kernel), List.mem_of_getElem? (i := 1783) (by decide +kernel)⟩
theorem lw_p99 : lw_okq (⟨"SevenTableModel", "goes", "(II)V"⟩, 65) := ⟨⟨by decide +kernel, by decide +kernel⟩, List.mem_of_getElem? (i := 1295) (by decide +kernel), List.mem_of_getElem? (i := 1786) (by decide +kernel), List.mem_of_getElem? (i := 1787) (by decide +kernel)⟩
theorem lw_p100 : lw_okq (⟨"SevenTableModel", "filled", "([I)I"⟩, 65) := ⟨⟨by decide +kernel, by decide +kernel⟩, List.mem_of_getElem? (i := 1295) (by decide +kernel), List.mem_of_getElem? (i := 1793) (by decide +kernel), List.mem_of_getElem? (i := 1794) (by decide +kernel)⟩
theorem lw_p101 : lw_okq (⟨"SevenTableModel", "bentOf", "(II)I"⟩, 65) := ⟨⟨by decide +kernel, by decide +kernel⟩, List.mem_of_getElem? (i := 1295) (by decide +kernel), List.mem_of_getElem? (i := 1808) (by decide +kernel), List.mem_of_getElem? (i := 1809) (by decide +kernel)⟩
theorem lw_p102 : lw_okq (⟨"SevenTableModel", "nextWithCards", "(I)I"⟩, 65) := ⟨⟨by decide +kernel, by decide +kernel⟩, List.mem_of_getElem? (i := 1295) (by decide +kernel), List.mem_of_getElem? (i := 1812) (by decide +kernel), List.mem_of_getElem? (i := 1813) (by decide +kernel)⟩
theorem lw_p103 : lw_okq (⟨"SevenTableModel", "octet", "(I)I"⟩, 65) := ⟨⟨by decide +kernel, by decide +kernel⟩, List.mem_of_getElem? (i := 1295) (by decide +kernel), List.mem_of_getElem? (i := 1820) (by decide +kernel), List.mem_of_getElem? (i := 1821) (by decide +kernel)⟩
theorem lw_p104 : lw_okq (⟨"SevenTableModel", "plays", "(IZ)I"⟩, 65) := ⟨⟨by decide +kernel, by decide +kernel⟩, List.mem_of_getElem? (i := 1295) (by decide +kernel), List.mem_of_getElem? (i := 1824) (by decide +kernel), List.mem_of_getElem? (i := 1825) (by decide +kernel)⟩
theorem lw_p105 : lw_okq (⟨"SevenTableModel", "deals", "(II)V"⟩, 65) := ⟨⟨by decide +kernel, by decide +kernel⟩, List.mem_of_getElem? (i := 1295) (by decide +kernel), List.mem_of_getElem? (i := 1832) (by decide +kernel), List.mem_of_getElem? (i := 1833) (by decide +kernel)⟩
theorem lw_p106 : lw_okq (⟨"SevenTableModel", "draw", "(I)I"⟩, 65) := ⟨⟨by decide +kernel, by decide +kernel⟩, List.mem_of_getElem? (i := 1295) (by decide +kernel), List.mem_of_getElem? (i := 1836) (by decide +kernel), List.mem_of_getElem? (i := 1837) (by decide +kernel)⟩
theorem lw_p107 : lw_okq (⟨"SevenTableModel", "areGames", "(III)Z"⟩, 65) := ⟨⟨by decide +kernel, by decide +kernel⟩, List.mem_of_getElem? (i := 1295) (by decide +kernel), List.mem_of_getElem? (i := 1845) (by decide +kernel), List.mem_of_getElem? (i := 1846) (by decide +kernel)⟩
theorem lw_p108 : lw_okq (⟨"SevenTableModel", "gamesOf", "(IIII)I"⟩, 65) := ⟨⟨by decide +kernel, by decide +kernel⟩, List.mem_of_getElem? (i := 1295) (by decide +kernel), List.mem_of_getElem? (i := 1849) (by decide +kernel), List.mem_of_getElem? (i := 1850) (by decide +kernel)⟩
theorem lw_p109 : lw_okq (⟨"SevenTableModel", "tries", "()V"⟩, 65) := ⟨⟨by decide +kernel, by decide +kernel⟩, List.mem_of_getElem? (i := 1295) (by decide +kernel), List.mem_of_getElem? (i := 1853) (by decide +kernel), List.mem_of_getElem? (i := 1854) (by decide +kernel)⟩
theorem lw_p110 : lw_okq (⟨"SevenTableModel", "back", "()V"⟩, 65) := ⟨⟨by decide +kernel, by decide +kernel⟩, List.mem_of_getElem? (i := 1295) (by decide +kernel), List.mem_of_getElem? (i := 1857) (by decide +kernel), List.mem_of_getElem? (i := 1858) (by decide +kernel)⟩
theorem lw_p111 : lw_okq (⟨"SevenTableModel", "eveningLine", "()Z"⟩, 65) := ⟨⟨by decide +kernel, by decide +kernel⟩, List.mem_of_getElem? (i := 1295) (by decide +kernel), List.mem_of_getElem? (i := 1877) (by decide +kernel), List.mem_of_getElem? (i := 1878) (by decide +kernel)⟩
def lw_privs_7 : List (MethodName × Nat) := [(⟨"SevenTableModel", "codeOf", "(Z)I"⟩, 65), (⟨"SevenTableModel", "lacks", "(I)I"⟩, 65), (⟨"SevenTableModel", "decode", "(I)V"⟩, 65), (⟨"SevenTableModel", "goes", "(II)V"⟩, 65), (⟨"SevenTableModel", "filled", "([I)I"⟩, 65), (⟨"SevenTableModel", "bentOf", "(II)I"⟩, 65), (⟨"SevenTableModel", "nextWithCards", "(I)I"⟩, 65), (⟨"SevenTableModel", "octet", "(I)I"⟩, 65), (⟨"SevenTableModel", "plays", "(IZ)I"⟩, 65), (⟨"SevenTableModel", "deals", "(II)V"⟩, 65), (⟨"SevenTableModel", "draw", "(I)I"⟩, 65), (⟨"SevenTableModel", "areGames", "(III)Z"⟩, 65), (⟨"SevenTableModel", "gamesOf", "(IIII)I"⟩, 65), (⟨"SevenTableModel", "tries", "()V"⟩, 65), (⟨"SevenTableModel", "back", "()V"⟩, 65), (⟨"SevenTableModel", "eveningLine", "()Z"⟩, 65)]
theorem lw_r7 : ∀ q ∈ lw_privs_7, lw_okq q := List.forall_mem_cons.mpr ⟨lw_p96, List.forall_mem_cons.mpr ⟨lw_p97, List.forall_mem_cons.mpr ⟨lw_p98, List.forall_mem_cons.mpr ⟨lw_p99, List.forall_mem_cons.mpr ⟨lw_p100, List.forall_mem_cons.mpr ⟨lw_p101, List.forall_mem_cons.mpr ⟨lw_p102, List.forall_mem_cons.mpr ⟨lw_p103, List.forall_mem_cons.mpr ⟨lw_p104, List.forall_mem_cons.mpr ⟨lw_p105, List.forall_mem_cons.mpr ⟨lw_p106, List.forall_mem_cons.mpr ⟨lw_p107, List.forall_mem_cons.mpr ⟨lw_p108, List.forall_mem_cons.mpr ⟨lw_p109, List.forall_mem_cons.mpr ⟨lw_p110, List.forall_mem_cons.mpr ⟨lw_p111, fun _ h => absurd h List.not_mem_nil⟩⟩⟩⟩⟩⟩⟩⟩⟩⟩⟩⟩⟩⟩⟩⟩
theorem lw_p112 : lw_okq (⟨"SevenTableModel", "nots", "()V"⟩, 65) := ⟨⟨by decide +kernel, by decide +kernel⟩, List.mem_of_getElem? (i := 1295) (by decide +kernel), List.mem_of_getElem? (i := 1889) (by decide +kernel), List.mem_of_getElem? (i := 1890) (by decide +kernel)⟩
theorem lw_p113 : lw_okq (⟨"SevenTableModel", "code", "(III)V"⟩, 65) := ⟨⟨by decide +kernel, by decide +kernel⟩, List.mem_of_getElem? (i := 1295) (by decide +kernel), List.mem_of_getElem? (i := 1893) (by decide +kernel), List.mem_of_getElem? (i := 1894) (by decide +kernel)⟩
theorem lw_p114 : lw_okq (⟨"SevenTableModel", "joins", "(I)V"⟩, 65) := ⟨⟨by decide +kernel, by decide +kernel⟩, List.mem_of_getElem? (i := 1295) (by decide +kernel), List.mem_of_getElem? (i := 1897) (by decide +kernel), List.mem_of_getElem? (i := 1898) (by decide +kernel)⟩
theorem lw_p115 : lw_okq (⟨"SevenTableModel", "behind", "()Z"⟩, 65) := ⟨⟨by decide +kernel, by decide +kernel⟩, List.mem_of_getElem? (i := 1295) (by decide +kernel), List.mem_of_getElem? (i := 1901) (by decide +kernel), List.mem_of_getElem? (i := 1902) (by decide +kernel)⟩
theorem lw_p116 : lw_okq (⟨"SevenTableModel", "operand", "()Z"⟩, 65) := ⟨⟨by decide +kernel, by decide +kernel⟩, List.mem_of_getElem? (i := 1295) (by decide +kernel), List.mem_of_getElem? (i := 1905) (by decide +kernel), List.mem_of_getElem? (i := 1906) (by decide +kernel)⟩
theorem lw_p117 : lw_okq (⟨"SevenTableModel", "leafOf", "()I"⟩, 65) := ⟨⟨by decide +kernel, by decide +kernel⟩, List.mem_of_getElem? (i := 1295) (by decide +kernel), List.mem_of_getElem? (i := 1909) (by decide +kernel), List.mem_of_getElem? (i := 1910) (by decide +kernel)⟩
theorem lw_p118 : lw_okq (⟨"SevenTableModel", "isSaid", "(I)Z"⟩, 65) := ⟨⟨by decide +kernel, by decide +kernel⟩, List.mem_of_getElem? (i := 1295) (by decide +kernel), List.mem_of_getElem? (i := 1917) (by decide +kernel), List.mem_of_getElem? (i := 1918) (by decide +kernel)⟩
theorem lw_p119 : lw_okq (⟨"SevenTableModel", "isLeaf", "(IIII)Z"⟩, 65) := ⟨⟨by decide +kernel, by decide +kernel⟩, List.mem_of_getElem? (i := 1295) (by decide +kernel), List.mem_of_getElem? (i := 1921) (by decide +kernel), List.mem_of_getElem? (i := 1922) (by decide +kernel)⟩
def lw_privs_8 : List (MethodName × Nat) := [(⟨"SevenTableModel", "nots", "()V"⟩, 65), (⟨"SevenTableModel", "code", "(III)V"⟩, 65), (⟨"SevenTableModel", "joins", "(I)V"⟩, 65), (⟨"SevenTableModel", "behind", "()Z"⟩, 65), (⟨"SevenTableModel", "operand", "()Z"⟩, 65), (⟨"SevenTableModel", "leafOf", "()I"⟩, 65), (⟨"SevenTableModel", "isSaid", "(I)Z"⟩, 65), (⟨"SevenTableModel", "isLeaf", "(IIII)Z"⟩, 65)]
theorem lw_r8 : ∀ q ∈ lw_privs_8, lw_okq q := List.forall_mem_cons.mpr ⟨lw_p112, List.forall_mem_cons.mpr ⟨lw_p113, List.forall_mem_cons.mpr ⟨lw_p114, List.forall_mem_cons.mpr ⟨lw_p115, List.forall_mem_cons.mpr ⟨lw_p116, List.forall_mem_cons.mpr ⟨lw_p117, List.forall_mem_cons.mpr ⟨lw_p118, List.forall_mem_cons.mpr ⟨lw_p119, fun _ h => absurd h List.not_mem_nil⟩⟩⟩⟩⟩⟩⟩⟩
def lw_privs : List (MethodName × Nat) := lw_privs_1 ++ (lw_privs_2 ++ (lw_privs_3 ++ (lw_privs_4 ++ (lw_privs_5 ++ (lw_privs_6 ++ (lw_privs_7 ++ (lw_privs_8)))))))
def lw_tbl : List Cond := k2_sels lw_privs ++ tables_1
theorem lw_privs_ok : ∀ q ∈ lw_privs, lw_okq q := by
  show ∀ q ∈ lw_privs_1 ++ (lw_privs_2 ++ (lw_privs_3 ++ (lw_privs_4 ++ (lw_privs_5 ++ (lw_privs_6 ++ (lw_privs_7 ++ (lw_privs_8))))))), lw_okq q
  exact List.forall_mem_append.mpr ⟨lw_r1, List.forall_mem_append.mpr ⟨lw_r2, List.forall_mem_append.mpr ⟨lw_r3, List.forall_mem_append.mpr ⟨lw_r4, List.forall_mem_append.mpr ⟨lw_r5, List.forall_mem_append.mpr ⟨lw_r6, List.forall_mem_append.mpr ⟨lw_r7, lw_r8⟩⟩⟩⟩⟩⟩⟩
-- ===== end of PART A; then your names; then what follows =====
end
section
/-- the rest of the library is read too: the rows below call it -/
theorem zz_wide : True := (fun _ => trivial) @Jvm.Stand.thenCaughtThrough
/-! ===== BEGIN words of one list among another's, by their places ===== -/
theorem goodIn_r {big : List Cond} (ws : List Cond) (ps : List Nat) (hp : ws = ps.filterMap (fun i => big[i]?)) (h : ws.all goodWord = true) : GoodIn big ws := by
  intro w hw
  have h1 := List.all_eq_true.mp h w hw
  rw [hp] at hw
  obtain ⟨i, -, hi⟩ := List.mem_filterMap.mp hw
  have hm : w ∈ big := by first | exact List.mem_of_getElem? hi | exact List.getElem?_mem hi
  exact ⟨hm, good_of_word h1⟩
theorem goodIn_app {big a b : List Cond} (ha : GoodIn big a) (hb : GoodIn big b) : GoodIn big (a ++ b) := fun w h => (List.mem_append.mp h).elim (ha w) (hb w)
theorem goodIn_ca {big a b : List Cond} {c : Cond} (ha : GoodIn big (c :: a)) (hb : GoodIn big b) : GoodIn big (c :: (a ++ b)) := fun w h => (List.mem_cons.mp h).elim (fun e => ha w (List.mem_cons.mpr (Or.inl e))) (fun h => (List.mem_append.mp h).elim (fun h => ha w (List.mem_cons.mpr (Or.inr h))) (hb w))
theorem goodIn_sub {big ws : List Cond} (hm : ∀ w ∈ ws, w ∈ big) (h : ws.all goodWord = true) : GoodIn big ws := fun w hw => ⟨hm w hw, good_of_word (List.all_eq_true.mp h w hw)⟩
/-! ===== END ===== -/

/-! ===== BEGIN exceptions that leave a method, and their catching by the caller (launches without stack traces) ===== -/
section VXA
/-! The laws vx_back, vx_callV, vx_callS, vx_callSW, vx_throw0, vx_throwS follow proofs of the library, with one case more: JvmDerived/Free/Laws.lean (Back.of_free), Shelf42/LK1.lean (callV, callS), Shelf/KitTraced.lean (throwNew0V, throwNewS). -/
/-- where a method has thrown q: the class by its name, the cell, what was written, the world -/
def vx_T (XC : String → State → State → Prop) (st : State) (q : Addr) (t : State) (mc ms : Nat) (free : Addr → Prop) : Prop :=
  ∃ (E : String) (ce : Cell) (L : List Loc), XC E st t ∧ t.heap[q]? = some ce ∧ ce.vm = .none ∧ st.vm.findClass E = some ce.cls ∧ st.WarmedH t.vm ∧ st.sameButNew ({ t with vm := st.vm } : State) L mc ms ∧ ∀ z ∈ L, free z.base
def vx_Q (Qc : Array Value → State → Outcome → State → Prop) (XC : String → State → State → Prop) (mc ms : Nat) (free : Addr → Prop) : Array Value → State → Outcome → State → Prop := fun a st o t =>
  (Qc a st o t ∧ ∃ L, FrameEnd st o t L mc ms ∧ ∀ q ∈ L, free q.base) ∨ ∃ q, o = .threw q ∧ vx_T XC st q t mc ms free
/-- a callee that returns or throws -/
def vx_Met (l : Launch) (y : MethodName) (ws : List Cond) (rm : Room) (Pc : Array Value → State → Prop) (Qc : Array Value → State → Outcome → State → Prop) (XC : String → State → State → Prop) (mc ms : Nat) (free : Addr → Prop) : Prop :=
  MetFree l y (headSpec ws rm) Pc (fun _ _ _ _ _ => True) (vx_Q Qc XC mc ms free)
def vx_Post (XC : String → State → State → Prop) (mc ms : Nat) (free : Addr → Prop) : Pt → Array Value → Addr → Pt → Prop := fun A a q B =>
  ∃ (g : JFrame) (mk : MethodId) (t : State) (L : List Loc) (E : String) (ce : Cell), B.U.heap = t.heap ∧ B.U.vm = t.vm ∧ XC E (A.U.calling g mk a) t ∧ t.heap[q]? = some ce ∧ ce.vm = .none ∧ A.U.vm.findClass E = some ce.cls ∧ B.locs = A.locs ++ L ∧ (∀ z ∈ L, free z.base) ∧ B.cells = A.cells + mc ∧ B.slots = A.slots + ms
def vx_Back (l : Launch) (R : Room) (p : Program) (e : Env) (below : List Frame) (s : State) (sargs : Array Value) (y : MethodName) (len W9 : Nat)
    (Pre : Pt → Array Value → Prop) (Post : Pt → Array Value → Option Value → Pt → Prop) (PostX : Pt → Array Value → Addr → Pt → Prop) : Prop :=
  ∀ (m : MethodId) (meth : Method) (c : Code) (A : Pt) (g : JFrame) (ig : Instr) (mk : MethodId) (a : Array Value),
    Stand p l e R s m sargs below meth c A.U A.locs A.cells A.slots → g.method = m → g.locals.size = c.maxLocals → decode c.code g.pc = .ok (ig, len) →
    2 * g.monitorRoom + (g.stack.map fun v => v.category).sum ≤ W9 → A.U.methodNamed? y = some mk → Pre A a →
    (∃ (v : Option Value) (B : Pt), Stand p l e R s m sargs below meth c B.U B.locs B.cells B.slots ∧ Post A a v B ∧
      Steps p.tables e below (doInvoke e (A.U.setTop g) [] mk a).1 (B.U.setTop { g with pc := g.pc + len, stack := v.toList ++ g.stack })) ∨
    (∃ (q : Addr) (B : Pt), Stand p l e R s m sargs below meth c B.U B.locs B.cells B.slots ∧ PostX A a q B ∧
      Steps p.tables e below (doInvoke e (A.U.setTop g) [] mk a).1 ((B.U.setTop g).pushFrame (.throwing q)))
section Payer
variable {l : Launch} {R : Room} {p : Program} {e : Env} {below : List Frame} {s : State} {sargs : Array Value} {y : MethodName} {len W9 : Nat}
theorem vx_back {ws : List Cond} {rm : Room} {Pc : Array Value → State → Prop} {Qc : Array Value → State → Outcome → State → Prop} {XC : String → State → State → Prop} {mc ms : Nat} {free : Addr → Prop} {bytes : ByteArray} {maxL : Nat} {ret : Option FieldType}
    (hM : vx_Met l y ws rm Pc Qc XC mc ms free) (hblind : FrameBlind Pc) (hrc : rm.cells = mc) (hrs : rm.slots = ms)
    (hframes : rm.frames + 1 ≤ R.frames) (hlocals : W9 + (maxL + 11) + rm.locals ≤ R.locals)
    (hws : ∀ w ∈ ws, ∀ a' U, s.WarmedH U.vm → w.before a' U = true) (hcode : Cond.code y bytes maxL ret ∈ ws) (hinit : ∀ a' U, s.WarmedH U.vm → (Cond.initialized y.cls).before a' U = true) :
    vx_Back l R p e below s sargs y len W9 (PreOf R mc ms Pc) (PostOf Qc mc ms free) (vx_Post XC mc ms free) := by
  intro m meth c A g ig mk a X hg hsize hdg hW hn hp
  have h1 : (headSpec ws rm).pre.before a A.U = true := atoms_intro fun w hw => hws w hw _ _ X.warmed
  have h2 : (Cond.code y bytes maxL ret).before a A.U = true := hws _ hcode _ _ X.warmed
  have h3 : (Cond.initialized y.cls).before a A.U = true := hinit _ _ X.warmed
  have h4 : A.cells + (headSpec ws rm).room.cells ≤ R.cells := by rw [show (headSpec ws rm).room.cells = mc from hrc]; exact hp.1
  have h5 : A.slots + (headSpec ws rm).room.slots ≤ R.slots := by rw [show (headSpec ws rm).room.slots = ms from hrs]; exact hp.2.1
  have hPc : Pc a (A.U.calling g mk a) := hblind _ _ _ _ hp.2.2
  obtain ⟨U, Ls, c0, s0⟩ := A
  dsimp only [Pt.U, Pt.locs, Pt.cells, Pt.slots] at h1 h2 h3 h4 h5 X hn hPc ⊢
  obtain ⟨methY, cY, hmY, hcY, -, hlY, -, -, -, -⟩ := Cond.code_spec hn h2
  obtain ⟨kY, hkY, -⟩ := className_of_methodNamed hn
  have hinitY : kY.init = .initialized := Cond.initialized_spec (findClass_of_methodNamed hn) hkY h3
  have h : At U g.method c below := by rw [hg]; exact X.here
  have hlocals9 : W9 + (maxL + 11) + (headSpec ws rm).room.locals ≤ R.locals := hlocals
  have happ : (headSpec ws rm).appliesLoose y e.platform (U.calling g mk a) = true :=
    Spec.appliesLoose_calling (g := g) h hdg hn hkY hinitY
      (X.room_calling (g := g) (R' := (headSpec ws rm).room) hsize hmY hcY hframes (by rw [hlY]; omega) h4 h5) h1
  obtain ⟨mid, hmid⟩ := h.above
  have hfr : (U.setTop g).frames = (.java g :: mid) ++ below := by rw [State.frames_setTop' g h.top, hmid]; rfl
  obtain ⟨o, s₂, hsteps, -, hend, hq⟩ := Steps.callFree hM p X.admits X.cas X.clock (acts := []) hfr happ hPc trivial
  have hq' : vx_Q Qc XC mc ms free a (U.calling g mk a) o s₂ := hq
  rw [State.frames_setTop' g h.top] at hend
  obtain ⟨g₀, hg0⟩ := Option.isSome_iff_exists.mp h.top
  obtain ⟨r, hr⟩ := State.topJava?_eq_some.mp hg0
  have hr' : (({ U with heap := s₂.heap, slotsUsed := s₂.slotsUsed } : State).setVm s₂.vm).frames = .java g₀ :: r := hr
  rcases hq' with ⟨hqc, L, hfe, hL⟩ | ⟨q, rfl, E, ce, L, hx, hce, hcv, hcl, hW₂, hsm, hL⟩
  · obtain ⟨⟨v, rfl⟩, hW₂, e2, q2, q3, q4, q5, q6⟩ := id hfe
    have e3 : s₂ = ({ (U.calling g mk a).setFrames s₂.frames with heap := s₂.heap, slotsUsed := s₂.slotsUsed } : State).setVm s₂.vm := by
      have : s₂ = ({ s₂ with vm := (U.calling g mk a).vm } : State).setVm s₂.vm := rfl
      rw [e2] at this
      exact this
    obtain ⟨c₂, i₂, len₂, hc₂, hd₂, hf₂⟩ := hend
    have hW' : U.WarmedH s₂.vm := hW₂
    have hcc : c₂ = c := by
      have h1 : s₂.code? g.method = U.code? g.method := by
        rw [State.code?_eq, State.code?_eq, hW'.alike.method?]
      exact Option.some.inj (hc₂.symm.trans (h1.trans h.code))
    subst hcc
    have hlen : len₂ = len := by rw [hdg] at hd₂; cases hd₂; rfl
    subst hlen
    have hs₂ : s₂ = (({ U with heap := s₂.heap, slotsUsed := s₂.slotsUsed } : State).setVm s₂.vm).setTop { g with pc := g.pc + len₂, stack := v.toList ++ g.stack } := by
      refine e3.trans ?_
      rw [hf₂, State.calling_eq h.top, State.setFrames_setFrames, State.setTop_of_frames _ hr', hr]
      rfl
    have hsame : U.sameButNew ({ U with heap := s₂.heap, slotsUsed := s₂.slotsUsed } : State) L mc ms := by
      refine ⟨?_, q2, q3, q4, q5, q6⟩
      obtain ⟨t, ht, -⟩ := State.frames_cons hr
      show ({ U with heap := s₂.heap, slotsUsed := s₂.slotsUsed } : State) = { U.setFrames U.frames with heap := s₂.heap, slotsUsed := s₂.slotsUsed }
      rw [State.setFrames_self ht]
    subst hg
    refine Or.inl ⟨v, ⟨(({ U with heap := s₂.heap, slotsUsed := s₂.slotsUsed } : State).setVm s₂.vm), Ls ++ L, c0 + mc, s0 + ms⟩,
      ⟨X.admits, X.cas, X.clock, X.frames, X.room, X.hears, X.method, X.code, (X.here.setHeapUsed s₂.heap s₂.slotsUsed).setVm hW'.alike, X.tail, State.WarmedH.trans X.warmed hW', X.limits, X.bytes, X.same.trans (hsame.setVm s.vm)⟩,
      ⟨g, mk, s₂, L, rfl, rfl, hqc, rfl, hL, rfl, rfl⟩, ?_⟩
    show Steps p.tables e below _ ((({ U with heap := s₂.heap, slotsUsed := s₂.slotsUsed } : State).setVm s₂.vm).setTop { g with pc := g.pc + len₂, stack := v.toList ++ g.stack })
    rw [← hs₂]
    exact hsteps
  · obtain ⟨e2, q2, q3, q4, q5, q6⟩ := id hsm
    have e3 : s₂ = ({ (U.calling g mk a).setFrames s₂.frames with heap := s₂.heap, slotsUsed := s₂.slotsUsed } : State).setVm s₂.vm := by
      have : s₂ = ({ s₂ with vm := (U.calling g mk a).vm } : State).setVm s₂.vm := rfl
      rw [e2] at this
      exact this
    have hf₂ : s₂.frames = .throwing q :: .java g :: U.frames.tail := hend
    have hW' : U.WarmedH s₂.vm := hW₂
    have hs₂ : s₂ = ((({ U with heap := s₂.heap, slotsUsed := s₂.slotsUsed } : State).setVm s₂.vm).setTop g).pushFrame (.throwing q) := by
      refine e3.trans ?_
      rw [hf₂, State.calling_eq h.top, State.setFrames_setFrames, State.pushFrame, State.frames_setTop _ hr', State.setTop_of_frames _ hr', State.setFrames_setFrames, hr]
      rfl
    have hsame : U.sameButNew ({ U with heap := s₂.heap, slotsUsed := s₂.slotsUsed } : State) L mc ms := by
      refine ⟨?_, q2, q3, q4, q5, q6⟩
      obtain ⟨t, ht, -⟩ := State.frames_cons hr
      show ({ U with heap := s₂.heap, slotsUsed := s₂.slotsUsed } : State) = { U.setFrames U.frames with heap := s₂.heap, slotsUsed := s₂.slotsUsed }
      rw [State.setFrames_self ht]
    subst hg
    refine Or.inr ⟨q, ⟨(({ U with heap := s₂.heap, slotsUsed := s₂.slotsUsed } : State).setVm s₂.vm), Ls ++ L, c0 + mc, s0 + ms⟩,
      ⟨X.admits, X.cas, X.clock, X.frames, X.room, X.hears, X.method, X.code, (X.here.setHeapUsed s₂.heap s₂.slotsUsed).setVm hW'.alike, X.tail, State.WarmedH.trans X.warmed hW', X.limits, X.bytes, X.same.trans (hsame.setVm s.vm)⟩,
      ⟨g, mk, s₂, L, E, ce, rfl, rfl, hx, hce, hcv, hcl, rfl, hL, rfl, rfl⟩, ?_⟩
    show Steps p.tables e below _ (((({ U with heap := s₂.heap, slotsUsed := s₂.slotsUsed } : State).setVm s₂.vm).setTop g).pushFrame (.throwing q))
    rw [← hs₂]
    exact hsteps
end Payer
section Calls
variable {p : Program} {l : Launch} {e : Env} {R : Room} {s : State} {m : MethodId} {args : Array Value} {below : List Frame} {meth : Method} {c : Code} {T : State} {locs : List Loc} {cells slots : Nat}
theorem vx_callV (X : Stand p l e R s m args below meth c T locs cells slots) (hexec : p.tables.exec = Jvm.exec) {own C : String} {index : Nat} {y : MethodName} {bytes : ByteArray} {maxL : Nat} {ret : Option FieldType}
    (hown : s.vm.findClass own = some m.cls) (hlink : (Cond.methodLink own index y).before args s = true) (hinst : (Cond.instanceMethod y).before args s = true) (hsel : (Cond.selects C y y).before args s = true)
    (hcode : (Cond.code y bytes maxL ret).before args s = true) (hy : y.cls ≠ "java/lang/invoke/MethodHandle" ∧ y.cls ≠ "java/lang/invoke/VarHandle")
    {W9 : Nat} {Pre : Pt → Array Value → Prop} {Post : Pt → Array Value → Option Value → Pt → Prop} {PostX : Pt → Array Value → Addr → Pt → Prop} (hK : vx_Back l R p e below s args y 3 W9 Pre Post PostX)
    {b : Addr} {cellB : Cell} (hcell : T.heap[b]? = some cellB) (hobj : cellB.vm.isStatics = false) (hcls : s.vm.findClass C = some cellB.cls)
    {g : JFrame} (hg : g.method = m) (hsize : g.locals.size = c.maxLocals) {argsL rest : List Value} (hlen : ∀ sig, parseMethodDescriptor y.desc = some sig → argsL.length = sig.parameters.length)
    (hstack : g.stack = argsL.reverse ++ .ref b :: rest) (hW : 2 * g.monitorRoom + (rest.map fun v => v.category).sum ≤ W9) (hdg : decode c.code g.pc = .ok (.invokevirtual index, 3))
    (hpre : ∀ vm₁, s.WarmedH vm₁ → Pre ⟨T.setVm vm₁, locs, cells, slots⟩ (Value.ref b :: argsL).toArray) :
    (∃ (v : Option Value) (vm₁ : Vm) (B : Pt), s.WarmedH vm₁ ∧ Stand p l e R s m args below meth c B.U B.locs B.cells B.slots ∧ Post ⟨T.setVm vm₁, locs, cells, slots⟩ (Value.ref b :: argsL).toArray v B ∧
      ∀ target, Steps p.tables e below (B.U.setTop { g with pc := g.pc + 3, stack := v.toList ++ rest }) target → Steps p.tables e below (T.setTop g) target) ∨
    (∃ (q : Addr) (vm₁ : Vm) (B : Pt), s.WarmedH vm₁ ∧ Stand p l e R s m args below meth c B.U B.locs B.cells B.slots ∧ PostX ⟨T.setVm vm₁, locs, cells, slots⟩ (Value.ref b :: argsL).toArray q B ∧
      Steps p.tables e below (T.setTop g) ((B.U.setTop { g with stack := rest }).pushFrame (.throwing q))) := by
  obtain ⟨mk, methM, hnamed, hmethM, hstM, habM⟩ := Cond.instanceMethod_spec hinst
  obtain ⟨methM', cM, hmethM', -, -, -, -, -, -, hsigM⟩ := Cond.code_spec hnamed hcode
  cases hmethM.symm.trans hmethM'
  obtain ⟨c2, r2, m2, q1, q2, q3, q4, kP, hkP, hkPi⟩ := Cond.selects_spec hsel
  cases hcls.symm.trans q1
  cases (State.methodFound?_of_named hnamed hy).symm.trans q2
  cases hnamed.symm.trans q3
  have hselP : selectMethod e.platform s.vm cellB.cls mk = .method mk := by rw [Launch.admits_selectMethod X.admits]; exact q4
  obtain ⟨vm₁, X₁, hstep₁⟩ := X.invokevirtual hexec hown hlink hnamed hmethM hstM hkP hkPi hy (a := b) (cell := cellB) hcell
    (fun z h => by rw [h] at hobj; cases hobj) hselP hmethM habM hkP hkPi (g := g) hg (argsL := argsL) (rest := rest) (hlen _ hsigM) hstack hdg
  rcases hK m meth c ⟨T.setVm vm₁, locs, cells, slots⟩ { g with stack := rest } (.invokevirtual index) mk (Value.ref b :: argsL).toArray X₁ hg hsize hdg hW (X₁.named hnamed) (hpre vm₁ X₁.warmed) with ⟨v, B, X', hpost, hsteps⟩ | ⟨q, B, X', hpost, hsteps⟩
  · exact Or.inl ⟨v, vm₁, B, X₁.warmed, X', hpost, fun target h => hstep₁ _ fun acts => by rw [doInvoke_state]; exact hsteps.trans h⟩
  · exact Or.inr ⟨q, vm₁, B, X₁.warmed, X', hpost, hstep₁ _ fun acts => by rw [doInvoke_state]; exact hsteps⟩
theorem vx_callS (X : Stand p l e R s m args below meth c T locs cells slots) (hexec : p.tables.exec = Jvm.exec) {own : String} {index : Nat} {y : MethodName} {bytes : ByteArray} {maxL : Nat} {ret : Option FieldType}
    (hown : s.vm.findClass own = some m.cls) (hlink : (Cond.methodLink own index y).before args s = true) (hstat : (Cond.static y).before args s = true) (hinit : (Cond.initialized y.cls).before args s = true)
    (hcode : (Cond.code y bytes maxL ret).before args s = true) (hy : y.cls ≠ "java/lang/invoke/MethodHandle" ∧ y.cls ≠ "java/lang/invoke/VarHandle")
    {W9 : Nat} {Pre : Pt → Array Value → Prop} {Post : Pt → Array Value → Option Value → Pt → Prop} {PostX : Pt → Array Value → Addr → Pt → Prop} (hK : vx_Back l R p e below s args y 3 W9 Pre Post PostX)
    {g : JFrame} (hg : g.method = m) (hsize : g.locals.size = c.maxLocals) {argsL rest : List Value} (hlen : ∀ sig, parseMethodDescriptor y.desc = some sig → argsL.length = sig.parameters.length)
    (hstack : g.stack = argsL.reverse ++ rest) (hW : 2 * g.monitorRoom + (rest.map fun v => v.category).sum ≤ W9) (hdg : decode c.code g.pc = .ok (.invokestatic index, 3))
    (hpre : ∀ vm₁, s.WarmedH vm₁ → Pre ⟨T.setVm vm₁, locs, cells, slots⟩ argsL.toArray) :
    (∃ (v : Option Value) (vm₁ : Vm) (B : Pt), s.WarmedH vm₁ ∧ Stand p l e R s m args below meth c B.U B.locs B.cells B.slots ∧ Post ⟨T.setVm vm₁, locs, cells, slots⟩ argsL.toArray v B ∧
      ∀ target, Steps p.tables e below (B.U.setTop { g with pc := g.pc + 3, stack := v.toList ++ rest }) target → Steps p.tables e below (T.setTop g) target) ∨
    (∃ (q : Addr) (vm₁ : Vm) (B : Pt), s.WarmedH vm₁ ∧ Stand p l e R s m args below meth c B.U B.locs B.cells B.slots ∧ PostX ⟨T.setVm vm₁, locs, cells, slots⟩ argsL.toArray q B ∧
      Steps p.tables e below (T.setTop g) ((B.U.setTop { g with stack := rest }).pushFrame (.throwing q))) := by
  obtain ⟨mk, hnamed⟩ := Cond.code_named hcode
  obtain ⟨methM, cM, hmethM, -, -, -, -, -, -, hsigM⟩ := Cond.code_spec hnamed hcode
  have hstatic : methM.isStatic = true := Cond.static_spec hnamed hmethM hstat
  obtain ⟨kP, hkP, -⟩ := className_of_methodNamed hnamed
  have hinitP : kP.init = .initialized := Cond.initialized_spec (findClass_of_methodNamed hnamed) hkP hinit
  obtain ⟨vm₁, X₁, hstep₁⟩ := X.invokestatic hexec hown hlink hnamed hmethM hstatic hkP hinitP hy (g := g) hg (argsL := argsL) (rest := rest) (hlen _ hsigM) hstack hdg
  rcases hK m meth c ⟨T.setVm vm₁, locs, cells, slots⟩ { g with stack := rest } (.invokestatic index) mk argsL.toArray X₁ hg hsize hdg hW (X₁.named hnamed) (hpre vm₁ X₁.warmed) with ⟨v, B, X', hpost, hsteps⟩ | ⟨q, B, X', hpost, hsteps⟩
  · exact Or.inl ⟨v, vm₁, B, X₁.warmed, X', hpost, fun target h => hstep₁ _ fun acts => by rw [doInvoke_state]; exact hsteps.trans h⟩
  · exact Or.inr ⟨q, vm₁, B, X₁.warmed, X', hpost, hstep₁ _ fun acts => by rw [doInvoke_state]; exact hsteps⟩
end Calls
theorem vx_cls {s : State} {T : State} {vm₁ : Vm} {E : String} {k : ClassId} (hW : s.WarmedH vm₁) (h : (T.setVm vm₁).vm.findClass E = some k) : s.vm.findClass E = some k := by
  have h1 : vm₁.findClass E = some k := h
  rw [hW.alike.findClass] at h1
  exact h1
/-- the method's frame g, with q thrown over it -/
def vx_W (p : Program) (l : Launch) (e : Env) (R : Room) (s : State) (m : MethodId) (args : Array Value) (below : List Frame) (meth : Method) (c : Code) (H : Heap) (locs : List Loc) (cells slots : Nat) (Q : State → Prop) (g : JFrame) (q : Addr) : Prop :=
  ∀ T : State, T.heap = H → Stand p l e R s m args below meth c T locs cells slots → ∃ t, Steps p.tables e below ((T.setTop g).pushFrame (.throwing q)) t ∧ Q t
def vx_Run (p : Program) (l : Launch) (e : Env) (R : Room) (s : State) (m : MethodId) (args : Array Value) (below : List Frame) (meth : Method) (c : Code) (H : Heap) (locs : List Loc) (cells slots mc ms : Nat) (g : JFrame) (rest : List Value) (Qa : State → Outcome → State → Prop) (XC : String → State → State → Prop) (free : Addr → Prop) : Prop :=
  ∀ T : State, T.heap = H → Stand p l e R s m args below meth c T locs cells slots →
    (∃ (v : Option Value) (st₀ t T' : State) (L : List Loc), st₀.heap = H ∧ Stand p l e R s m args below meth c T' (locs ++ L) (cells + mc) (slots + ms) ∧ (∀ q ∈ L, free q.base) ∧ T'.heap = t.heap ∧ T'.vm = t.vm ∧ Qa st₀ (.returned v) t ∧
      Goes p e below T g T' { g with pc := g.pc + 3, stack := v.toList ++ rest }) ∨
    (∃ (q : Addr) (st₀ t T' : State) (L : List Loc) (E : String) (ce : Cell), st₀.heap = H ∧ Stand p l e R s m args below meth c T' (locs ++ L) (cells + mc) (slots + ms) ∧ (∀ z ∈ L, free z.base) ∧ T'.heap = t.heap ∧ T'.vm = t.vm ∧ XC E st₀ t ∧ t.heap[q]? = some ce ∧ ce.vm = .none ∧ s.vm.findClass E = some ce.cls ∧
      Steps p.tables e below (T.setTop g) ((T'.setTop { g with stack := rest }).pushFrame (.throwing q)))
def vx_X {S : Type} (px : S → Prop) (B : String → S → State → Prop) (A : Nat → Prop) : String → State → State → Prop := fun E st t => ∃ u : S, px u ∧ B E u t ∧ va_F A st t
section Runs
variable {p : Program} {l : Launch} {e : Env} {R : Room} {s : State} {m : MethodId} {args : Array Value} {below : List Frame} {meth : Method} {c : Code} {H : Heap} {locs : List Loc} {cells slots : Nat}
variable {y : MethodName} {bytes cc : ByteArray} {maxL nL mc ms n index : Nat} {ret : Option FieldType} {ws : List Cond} {rm : Room} {Pc : Array Value → State → Prop} {Qc : Array Value → State → Outcome → State → Prop} {XC : String → State → State → Prop} {free : Addr → Prop} {Ts : List Cond} {own C : String} {b : Addr} {As rest : List Value} {g : JFrame}
theorem vx_callBack (cb : CallB R s args own index y bytes maxL ret ws rm mc ms n) (hM : vx_Met l y ws rm Pc Qc XC mc ms free) (hbl : FrameBlind Pc) : vx_Back l R p e below s args y 3 8 (PreOf R mc ms Pc) (PostOf Qc mc ms free) (vx_Post XC mc ms free) := by
  obtain ⟨hrc, hrs, hfr, hlo, hws, hcw, -, hini, -⟩ := cb
  exact vx_back (bytes := bytes) (maxL := maxL) (ret := ret) hM hbl hrc hrs hfr hlo hws hcw (fun a' U hW => word_at hW (Or.inl (by first | rfl | simp [Cond.onTables, Cond.keeps, Cond.steady])) hini)
theorem vx_runV (S : CallFix p m c cc nL s args Ts own) (hM : vx_Met l y ws rm Pc Qc XC mc ms free) (cw : CallW R s args own C index y bytes maxL ret ws rm mc ms n) (hp : PreV s H C b Pc As)
    (hg : g.method = m) (hn : As.length = n) (hsize : g.locals.size = nL) (hstack : g.stack = As.reverse ++ .ref b :: rest) (hW : 2 * g.monitorRoom + (rest.map fun v => v.category).sum ≤ 8) (hdg : decode cc g.pc = .ok (.invokevirtual index, 3)) (hf : cells + mc ≤ R.cells ∧ slots + ms ≤ R.slots) :
    vx_Run p l e R s m args below meth c H locs cells slots mc ms g rest (Qc (Value.ref b :: As).toArray) XC free := by
  have hK : vx_Back l R p e below s args y 3 8 (PreOf R mc ms Pc) (PostOf Qc mc ms free) (vx_Post XC mc ms free) := vx_callBack cw.1 hM hp.1
  obtain ⟨⟨-, -, -, -, -, -, hcode, -, hy, hlen, hl⟩, hin, hse⟩ := cw
  obtain ⟨hx, hb, hml, ho, -⟩ := S
  obtain ⟨-, ⟨cellB, hcB, hoB, hclB⟩, hPc⟩ := hp
  intro T hT X
  rcases vx_callV X hx (C := C) (bytes := bytes) (maxL := maxL) (ret := ret) ho hl hin hse hcode hy hK (by rw [hT]; exact hcB) hoB hclB hg (hsize.trans hml.symm) (argsL := As) (rest := rest) (fun sig h => hn.trans (hlen sig h)) hstack hW (by rw [hb]; exact hdg)
    (fun vm₁ hW₁ => ⟨hf.1, hf.2, hPc (T.setVm vm₁) hT hW₁⟩) with ⟨v, vm₁, ⟨U', l2, c2, s2⟩, hW₁, X', ⟨g', mk, t, L, e1, e2, hq, h1, hL, h2, h3⟩, st⟩ | ⟨q, vm₁, ⟨U', l2, c2, s2⟩, hW₁, X', ⟨g', mk, t, L, E, ce, e1, e2, hq, hce, hcv, hcl, h1, hL, h2, h3⟩, st⟩
  · dsimp only [Pt.U, Pt.locs, Pt.cells, Pt.slots] at X' e1 e2 h1 h2 h3 st
    subst h1; subst h2; subst h3
    exact Or.inl ⟨v, (T.setVm vm₁).calling g' mk (Value.ref b :: As).toArray, t, U', L, hT, X', hL, e1, e2, hq, st⟩
  · dsimp only [Pt.U, Pt.locs, Pt.cells, Pt.slots] at X' e1 e2 h1 h2 h3 st hcl
    subst h1; subst h2; subst h3
    exact Or.inr ⟨q, (T.setVm vm₁).calling g' mk (Value.ref b :: As).toArray, t, U', L, E, ce, hT, X', hL, e1, e2, hq, hce, hcv, vx_cls hW₁ hcl, st⟩
theorem vx_runS (S : CallFix p m c cc nL s args Ts own) (hM : vx_Met l y ws rm Pc Qc XC mc ms free) (cw : CallB R s args own index y bytes maxL ret ws rm mc ms n ∧ (Cond.static y).before args s = true) (hp : PreS s H Pc As)
    (hg : g.method = m) (hn : As.length = n) (hsize : g.locals.size = nL) (hstack : g.stack = As.reverse ++ rest) (hW : 2 * g.monitorRoom + (rest.map fun v => v.category).sum ≤ 8) (hdg : decode cc g.pc = .ok (.invokestatic index, 3)) (hf : cells + mc ≤ R.cells ∧ slots + ms ≤ R.slots) :
    vx_Run p l e R s m args below meth c H locs cells slots mc ms g rest (Qc As.toArray) XC free := by
  have hK : vx_Back l R p e below s args y 3 8 (PreOf R mc ms Pc) (PostOf Qc mc ms free) (vx_Post XC mc ms free) := vx_callBack cw.1 hM hp.1
  obtain ⟨⟨-, -, -, -, -, -, hcode, hini, hy, hlen, hl⟩, hstt⟩ := cw
  obtain ⟨hx, hb, hml, ho, -⟩ := S
  intro T hT X
  rcases vx_callS X hx (bytes := bytes) (maxL := maxL) (ret := ret) ho hl hstt hini hcode hy hK hg (hsize.trans hml.symm) (argsL := As) (rest := rest) (fun sig h => hn.trans (hlen sig h)) hstack hW (by rw [hb]; exact hdg)
    (fun vm₁ hW₁ => ⟨hf.1, hf.2, hp.2 (T.setVm vm₁) hT hW₁⟩) with ⟨v, vm₁, ⟨U', l2, c2, s2⟩, hW₁, X', ⟨g', mk, t, L, e1, e2, hq, h1, hL, h2, h3⟩, st⟩ | ⟨q, vm₁, ⟨U', l2, c2, s2⟩, hW₁, X', ⟨g', mk, t, L, E, ce, e1, e2, hq, hce, hcv, hcl, h1, hL, h2, h3⟩, st⟩
  · dsimp only [Pt.U, Pt.locs, Pt.cells, Pt.slots] at X' e1 e2 h1 h2 h3 st
    subst h1; subst h2; subst h3
    exact Or.inl ⟨v, (T.setVm vm₁).calling g' mk As.toArray, t, U', L, hT, X', hL, e1, e2, hq, st⟩
  · dsimp only [Pt.U, Pt.locs, Pt.cells, Pt.slots] at X' e1 e2 h1 h2 h3 st hcl
    subst h1; subst h2; subst h3
    exact Or.inr ⟨q, (T.setVm vm₁).calling g' mk As.toArray, t, U', L, E, ce, hT, X', hL, e1, e2, hq, hce, hcv, vx_cls hW₁ hcl, st⟩
end Runs
section Rows
variable {p : Program} {l : Launch} {e : Env} {R : Room} {s : State} {m : MethodId} {args : Array Value} {below : List Frame} {meth : Method} {c : Code} {H : Heap} {locs : List Loc} {cells slots : Nat} {Q : State → Prop}
variable {mc ms : Nat} {free : Addr → Prop} {A0 A1 : Nat → Prop} {H0 : Heap} {a : Array Value} {pc : Nat} {ls : Array Slot} {st0 rest : List Value}
theorem vx_keep {st₀ t T' : State} {L : List Loc} (h0 : st₀.heap = H) (e1 : T'.heap = t.heap) (hS : va_S A0 H0 H locs) (hA : ∀ q, q < H.size → A1 q → A0 q) (hf : ∀ q, free q → A0 q) (hL : ∀ q ∈ L, free q.base) (hF : va_F A1 st₀ t) :
    H.size ≤ T'.heap.size ∧ (∀ q : Nat, q < H.size → ¬ A1 q → T'.heap[q]? = H[q]?) ∧ va_S A0 H0 T'.heap (locs ++ L) := by
  obtain ⟨hz, hk⟩ := hF
  rw [h0] at hz hk
  exact ⟨by rw [e1]; exact hz, fun q h1 h2 => by rw [e1]; exact hk q h1 h2,
    ⟨Nat.le_trans hS.1 (by rw [e1]; exact hz), fun q h1 h2 => by rw [e1, hk q (Nat.lt_of_lt_of_le h1 hS.1) (fun z => h2 (hA q (Nat.lt_of_lt_of_le h1 hS.1) z))]; exact hS.2.1 q h1 h2, fun q hq => by
      rcases List.mem_append.mp hq with h | h
      · exact hS.2.2 q h
      · exact hf _ (hL q h)⟩⟩
theorem vx_calli {S SX : Type} {post : Int32 → S → Prop} {px : SX → Prop} {B : S → State → Prop} {BX : String → SX → State → Prop} {AX : Nat → Prop} (hr : vx_Run p l e R s m args below meth c H locs cells slots mc ms (F0 m pc ls st0) rest (va_Qi post B A1 a) (vx_X px BX AX) free) (hS : va_S A0 H0 H locs) (hA : ∀ q, q < H.size → A1 q → A0 q) (hf : ∀ q, free q → A0 q) (hAX : ∀ q, q < H.size → AX q → A0 q)
    (kx : ∀ (E : String) (ce : Cell) (q9 : Addr) (u : SX) (t : State) (H1 : Heap) (locs1 : List Loc), t.heap = H1 → s.vm.Alike t.vm → px u → BX E u t → H.size ≤ H1.size → (∀ q : Nat, q < H.size → ¬ AX q → H1[q]? = H[q]?) → va_S A0 H0 H1 locs1 → H1[q9]? = some ce → ce.vm = .none → s.vm.findClass E = some ce.cls → vx_W p l e R s m args below meth c H1 locs1 (cells + mc) (slots + ms) Q (F0 m pc ls rest) q9)
    (kk : ∀ (r : Int32) (u : S) (t : State) (H1 : Heap) (locs1 : List Loc), t.heap = H1 → s.vm.Alike t.vm → post r u → B u t → H.size ≤ H1.size → (∀ q : Nat, q < H.size → ¬ A1 q → H1[q]? = H[q]?) → va_S A0 H0 H1 locs1 → W p l e R s m args below meth c H1 locs1 (cells + mc) (slots + ms) Q (F0 m (pc + 3) ls (.int r :: rest))) : W p l e R s m args below meth c H locs cells slots Q (F0 m pc ls st0) := by
  intro T hT X
  rcases hr T hT X with ⟨v, st₀, t, T', L, h0, X', hL, e1, e2, ⟨⟨r, u, hv, hp, hb⟩, hF⟩, st⟩ | ⟨q, st₀, t, T', L, E, ce, h0, X', hL, e1, e2, ⟨u, hp, hb, hF⟩, hce, hcv, hcl, st⟩
  · cases hv
    obtain ⟨k1, k2, k3⟩ := vx_keep h0 e1 hS hA hf hL hF
    obtain ⟨t2, a1, b1⟩ := kk r u t T'.heap (locs ++ L) e1.symm (by rw [← e2]; exact X'.warmed.alike) hp hb k1 k2 k3 T' rfl X'
    exact ⟨t2, st t2 a1, b1⟩
  · obtain ⟨k1, k2, k3⟩ := vx_keep h0 e1 hS hAX hf hL hF
    obtain ⟨t2, a1, b1⟩ := kx E ce q u t T'.heap (locs ++ L) e1.symm (by rw [← e2]; exact X'.warmed.alike) hp hb k1 k2 k3 (by rw [e1]; exact hce) hcv hcl T' rfl X'
    exact ⟨t2, st.trans a1, b1⟩
theorem vx_calll {S SX : Type} {post : Int64 → S → Prop} {px : SX → Prop} {B : S → State → Prop} {BX : String → SX → State → Prop} {AX : Nat → Prop} (hr : vx_Run p l e R s m args below meth c H locs cells slots mc ms (F0 m pc ls st0) rest (va_Ql post B A1 a) (vx_X px BX AX) free) (hS : va_S A0 H0 H locs) (hA : ∀ q, q < H.size → A1 q → A0 q) (hf : ∀ q, free q → A0 q) (hAX : ∀ q, q < H.size → AX q → A0 q)
    (kx : ∀ (E : String) (ce : Cell) (q9 : Addr) (u : SX) (t : State) (H1 : Heap) (locs1 : List Loc), t.heap = H1 → s.vm.Alike t.vm → px u → BX E u t → H.size ≤ H1.size → (∀ q : Nat, q < H.size → ¬ AX q → H1[q]? = H[q]?) → va_S A0 H0 H1 locs1 → H1[q9]? = some ce → ce.vm = .none → s.vm.findClass E = some ce.cls → vx_W p l e R s m args below meth c H1 locs1 (cells + mc) (slots + ms) Q (F0 m pc ls rest) q9)
    (kk : ∀ (r : Int64) (u : S) (t : State) (H1 : Heap) (locs1 : List Loc), t.heap = H1 → s.vm.Alike t.vm → post r u → B u t → H.size ≤ H1.size → (∀ q : Nat, q < H.size → ¬ A1 q → H1[q]? = H[q]?) → va_S A0 H0 H1 locs1 → W p l e R s m args below meth c H1 locs1 (cells + mc) (slots + ms) Q (F0 m (pc + 3) ls (.long r :: rest))) : W p l e R s m args below meth c H locs cells slots Q (F0 m pc ls st0) := by
  intro T hT X
  rcases hr T hT X with ⟨v, st₀, t, T', L, h0, X', hL, e1, e2, ⟨⟨r, u, hv, hp, hb⟩, hF⟩, st⟩ | ⟨q, st₀, t, T', L, E, ce, h0, X', hL, e1, e2, ⟨u, hp, hb, hF⟩, hce, hcv, hcl, st⟩
  · cases hv
    obtain ⟨k1, k2, k3⟩ := vx_keep h0 e1 hS hA hf hL hF
    obtain ⟨t2, a1, b1⟩ := kk r u t T'.heap (locs ++ L) e1.symm (by rw [← e2]; exact X'.warmed.alike) hp hb k1 k2 k3 T' rfl X'
    exact ⟨t2, st t2 a1, b1⟩
  · obtain ⟨k1, k2, k3⟩ := vx_keep h0 e1 hS hAX hf hL hF
    obtain ⟨t2, a1, b1⟩ := kx E ce q u t T'.heap (locs ++ L) e1.symm (by rw [← e2]; exact X'.warmed.alike) hp hb k1 k2 k3 (by rw [e1]; exact hce) hcv hcl T' rfl X'
    exact ⟨t2, st.trans a1, b1⟩
theorem vx_callf {S SX : Type} {post : UInt32 → S → Prop} {px : SX → Prop} {B : S → State → Prop} {BX : String → SX → State → Prop} {AX : Nat → Prop} (hr : vx_Run p l e R s m args below meth c H locs cells slots mc ms (F0 m pc ls st0) rest (va_Qf post B A1 a) (vx_X px BX AX) free) (hS : va_S A0 H0 H locs) (hA : ∀ q, q < H.size → A1 q → A0 q) (hf : ∀ q, free q → A0 q) (hAX : ∀ q, q < H.size → AX q → A0 q)
    (kx : ∀ (E : String) (ce : Cell) (q9 : Addr) (u : SX) (t : State) (H1 : Heap) (locs1 : List Loc), t.heap = H1 → s.vm.Alike t.vm → px u → BX E u t → H.size ≤ H1.size → (∀ q : Nat, q < H.size → ¬ AX q → H1[q]? = H[q]?) → va_S A0 H0 H1 locs1 → H1[q9]? = some ce → ce.vm = .none → s.vm.findClass E = some ce.cls → vx_W p l e R s m args below meth c H1 locs1 (cells + mc) (slots + ms) Q (F0 m pc ls rest) q9)
    (kk : ∀ (r : UInt32) (u : S) (t : State) (H1 : Heap) (locs1 : List Loc), t.heap = H1 → s.vm.Alike t.vm → post r u → B u t → H.size ≤ H1.size → (∀ q : Nat, q < H.size → ¬ A1 q → H1[q]? = H[q]?) → va_S A0 H0 H1 locs1 → W p l e R s m args below meth c H1 locs1 (cells + mc) (slots + ms) Q (F0 m (pc + 3) ls (.float r :: rest))) : W p l e R s m args below meth c H locs cells slots Q (F0 m pc ls st0) := by
  intro T hT X
  rcases hr T hT X with ⟨v, st₀, t, T', L, h0, X', hL, e1, e2, ⟨⟨r, u, hv, hp, hb⟩, hF⟩, st⟩ | ⟨q, st₀, t, T', L, E, ce, h0, X', hL, e1, e2, ⟨u, hp, hb, hF⟩, hce, hcv, hcl, st⟩
  · cases hv
    obtain ⟨k1, k2, k3⟩ := vx_keep h0 e1 hS hA hf hL hF
    obtain ⟨t2, a1, b1⟩ := kk r u t T'.heap (locs ++ L) e1.symm (by rw [← e2]; exact X'.warmed.alike) hp hb k1 k2 k3 T' rfl X'
    exact ⟨t2, st t2 a1, b1⟩
  · obtain ⟨k1, k2, k3⟩ := vx_keep h0 e1 hS hAX hf hL hF
    obtain ⟨t2, a1, b1⟩ := kx E ce q u t T'.heap (locs ++ L) e1.symm (by rw [← e2]; exact X'.warmed.alike) hp hb k1 k2 k3 (by rw [e1]; exact hce) hcv hcl T' rfl X'
    exact ⟨t2, st.trans a1, b1⟩
theorem vx_calld {S SX : Type} {post : UInt64 → S → Prop} {px : SX → Prop} {B : S → State → Prop} {BX : String → SX → State → Prop} {AX : Nat → Prop} (hr : vx_Run p l e R s m args below meth c H locs cells slots mc ms (F0 m pc ls st0) rest (va_Qd post B A1 a) (vx_X px BX AX) free) (hS : va_S A0 H0 H locs) (hA : ∀ q, q < H.size → A1 q → A0 q) (hf : ∀ q, free q → A0 q) (hAX : ∀ q, q < H.size → AX q → A0 q)
    (kx : ∀ (E : String) (ce : Cell) (q9 : Addr) (u : SX) (t : State) (H1 : Heap) (locs1 : List Loc), t.heap = H1 → s.vm.Alike t.vm → px u → BX E u t → H.size ≤ H1.size → (∀ q : Nat, q < H.size → ¬ AX q → H1[q]? = H[q]?) → va_S A0 H0 H1 locs1 → H1[q9]? = some ce → ce.vm = .none → s.vm.findClass E = some ce.cls → vx_W p l e R s m args below meth c H1 locs1 (cells + mc) (slots + ms) Q (F0 m pc ls rest) q9)
    (kk : ∀ (r : UInt64) (u : S) (t : State) (H1 : Heap) (locs1 : List Loc), t.heap = H1 → s.vm.Alike t.vm → post r u → B u t → H.size ≤ H1.size → (∀ q : Nat, q < H.size → ¬ A1 q → H1[q]? = H[q]?) → va_S A0 H0 H1 locs1 → W p l e R s m args below meth c H1 locs1 (cells + mc) (slots + ms) Q (F0 m (pc + 3) ls (.double r :: rest))) : W p l e R s m args below meth c H locs cells slots Q (F0 m pc ls st0) := by
  intro T hT X
  rcases hr T hT X with ⟨v, st₀, t, T', L, h0, X', hL, e1, e2, ⟨⟨r, u, hv, hp, hb⟩, hF⟩, st⟩ | ⟨q, st₀, t, T', L, E, ce, h0, X', hL, e1, e2, ⟨u, hp, hb, hF⟩, hce, hcv, hcl, st⟩
  · cases hv
    obtain ⟨k1, k2, k3⟩ := vx_keep h0 e1 hS hA hf hL hF
    obtain ⟨t2, a1, b1⟩ := kk r u t T'.heap (locs ++ L) e1.symm (by rw [← e2]; exact X'.warmed.alike) hp hb k1 k2 k3 T' rfl X'
    exact ⟨t2, st t2 a1, b1⟩
  · obtain ⟨k1, k2, k3⟩ := vx_keep h0 e1 hS hAX hf hL hF
    obtain ⟨t2, a1, b1⟩ := kx E ce q u t T'.heap (locs ++ L) e1.symm (by rw [← e2]; exact X'.warmed.alike) hp hb k1 k2 k3 (by rw [e1]; exact hce) hcv hcl T' rfl X'
    exact ⟨t2, st.trans a1, b1⟩
theorem vx_callv {S SX : Type} {post : S → Prop} {px : SX → Prop} {B : S → State → Prop} {BX : String → SX → State → Prop} {AX : Nat → Prop} (hr : vx_Run p l e R s m args below meth c H locs cells slots mc ms (F0 m pc ls st0) rest (va_Qv post B A1 a) (vx_X px BX AX) free) (hS : va_S A0 H0 H locs) (hA : ∀ q, q < H.size → A1 q → A0 q) (hf : ∀ q, free q → A0 q) (hAX : ∀ q, q < H.size → AX q → A0 q)
    (kx : ∀ (E : String) (ce : Cell) (q9 : Addr) (u : SX) (t : State) (H1 : Heap) (locs1 : List Loc), t.heap = H1 → s.vm.Alike t.vm → px u → BX E u t → H.size ≤ H1.size → (∀ q : Nat, q < H.size → ¬ AX q → H1[q]? = H[q]?) → va_S A0 H0 H1 locs1 → H1[q9]? = some ce → ce.vm = .none → s.vm.findClass E = some ce.cls → vx_W p l e R s m args below meth c H1 locs1 (cells + mc) (slots + ms) Q (F0 m pc ls rest) q9)
    (kk : ∀ (u : S) (t : State) (H1 : Heap) (locs1 : List Loc), t.heap = H1 → s.vm.Alike t.vm → post u → B u t → H.size ≤ H1.size → (∀ q : Nat, q < H.size → ¬ A1 q → H1[q]? = H[q]?) → va_S A0 H0 H1 locs1 → W p l e R s m args below meth c H1 locs1 (cells + mc) (slots + ms) Q (F0 m (pc + 3) ls (rest))) : W p l e R s m args below meth c H locs cells slots Q (F0 m pc ls st0) := by
  intro T hT X
  rcases hr T hT X with ⟨v, st₀, t, T', L, h0, X', hL, e1, e2, ⟨⟨u, hv, hp, hb⟩, hF⟩, st⟩ | ⟨q, st₀, t, T', L, E, ce, h0, X', hL, e1, e2, ⟨u, hp, hb, hF⟩, hce, hcv, hcl, st⟩
  · cases hv
    obtain ⟨k1, k2, k3⟩ := vx_keep h0 e1 hS hA hf hL hF
    obtain ⟨t2, a1, b1⟩ := kk u t T'.heap (locs ++ L) e1.symm (by rw [← e2]; exact X'.warmed.alike) hp hb k1 k2 k3 T' rfl X'
    exact ⟨t2, st t2 a1, b1⟩
  · obtain ⟨k1, k2, k3⟩ := vx_keep h0 e1 hS hAX hf hL hF
    obtain ⟨t2, a1, b1⟩ := kx E ce q u t T'.heap (locs ++ L) e1.symm (by rw [← e2]; exact X'.warmed.alike) hp hb k1 k2 k3 (by rw [e1]; exact hce) hcv hcl T' rfl X'
    exact ⟨t2, st.trans a1, b1⟩
/-- caught by the row x of this method's table; the rows ahead don't take it -/
theorem vx_catch {own name : String} {E : String} {ce : Cell} {q : Addr} (hown : s.vm.findClass own = some m.cls) (pre : List ExceptionTableEntry) (x : ExceptionTableEntry) (suf : List ExceptionTableEntry) (hsplit : c.exceptionTable.toList = pre ++ x :: suf)
    (hpass : ∀ z ∈ pre, covers z pc = false ∨ (z.catchType ≠ 0 ∧ ∃ nm : String, (Cond.classLink own z.catchType nm).before args s = true ∧ va_Nc E nm s)) (hx : covers x pc = true) (h0 : x.catchType ≠ 0)
    (hlink : (Cond.classLink own x.catchType name).before args s = true) (hcast : (Cond.castable E name).before args s = true) (hcell : H[q]? = some ce) (hv : ce.vm = .none) (hcl : s.vm.findClass E = some ce.cls)
    (kk : W p l e R s m args below meth c H locs cells slots Q (F0 m x.handlerPc ls [.ref q])) : vx_W p l e R s m args below meth c H locs cells slots Q (F0 m pc ls rest) q := by
  intro T hT X
  have hpl : e.platform.magicAccessors = ({} : Platform).magicAccessors := by rw [X.admits.platform]
  obtain ⟨c3, c4, hc3, hc4, hasg⟩ := Cond.castable_spec hcast
  cases Option.some.inj (hc3.symm.trans hcl)
  obtain ⟨c5, hc5, hcl5⟩ := Cond.classLink_spec hown hlink e.platform hpl
  cases Option.some.inj (hc4.symm.trans hc5)
  obtain ⟨vm', X', st⟩ := X.thenCaughtThrough q (g := F0 m pc ls rest) rfl (Steps.refl _) (by rw [hT]; exact hcell) (by rw [hv]; rfl) (by obtain ⟨k9, h9, -⟩ := Vm.findClass_spec hcl; exact ⟨k9, h9⟩) pre x suf hsplit
    (fun z hz => by
      rcases hpass z hz with h | ⟨hz0, nm, hl1, hn1⟩
      · exact Or.inl h
      · obtain ⟨c6, hc6, hcl6⟩ := Cond.classLink_spec hown hl1 e.platform hpl
        obtain ⟨a8, b8, h1, h2, h3⟩ := hn1
        cases Option.some.inj (h1.symm.trans hcl)
        cases Option.some.inj (h2.symm.trans hc6)
        exact Or.inr ⟨hz0, _, hcl6, h3⟩) hx (Or.inr ⟨h0, c4, hcl5, hasg⟩)
  obtain ⟨t, a1, b1⟩ := kk (T.setVm vm') hT X'
  exact ⟨t, st.trans a1, b1⟩
end Rows
section Ends
variable {p : Program} {l : Launch} {e : Env} {R : Room} {s : State} {m : MethodId} {args : Array Value} {below : List Frame} {meth : Method} {c : Code} {H : Heap} {locs : List Loc} {cells slots : Nat} {Q : State → Prop}
variable {mc ms : Nat} {free : Addr → Prop} {A0 A1 : Nat → Prop} {H0 : Heap} {a : Array Value} {ls : Array Slot} {st0 rest : List Value}
variable {Qc : Array Value → State → Outcome → State → Prop} {XC : String → State → State → Prop}
/-- what a body that may throw owes at its end -/
def vx_MQ (below : List Frame) (Qc : Array Value → State → Outcome → State → Prop) (XC : String → State → State → Prop) (a : Array Value) (s : State) (mc ms : Nat) (free : Addr → Prop) : State → Prop := fun t =>
  ∃ o, t.status = .running ∧ Ended t below o ∧ vx_Q Qc XC mc ms free a s o t
theorem vx_ret {g : JFrame} {mc ms : Nat} (k : W p l e R s m args below meth c H locs cells slots (MQ below Qc args s mc ms free) g) : W p l e R s m args below meth c H locs cells slots (vx_MQ below Qc XC args s mc ms free) g := by
  intro T hT X
  obtain ⟨t, a1, o, b1, b2, b3, b4⟩ := k T hT X
  exact ⟨t, a1, o, b1, b2, Or.inl ⟨b3, b4⟩⟩
/-- not caught here: it goes on to the caller -/
theorem vx_widen {g : JFrame} {q : Addr} {k n : Nat} (h1 : cells ≤ k) (h2 : slots ≤ n) (kk : vx_W p l e R s m args below meth c H locs k n Q g q) : vx_W p l e R s m args below meth c H locs cells slots Q g q := fun T hT X => kk T hT (stand_widen X h1 h2)
theorem vx_out {pc : Nat} {E : String} {ce : Cell} {q : Addr} {mc ms : Nat} (hout : ∀ x ∈ c.exceptionTable.toList, covers x pc = false) (hlocks : meth.locks = false) (hcell : H[q]? = some ce) (hv : ce.vm = .none) (hcl : s.vm.findClass E = some ce.cls)
    (hx : ∀ t : State, t.heap = H → s.vm.Alike t.vm → XC E s t) (hf : ∀ z ∈ locs, free z.base) (hc : cells ≤ mc) (hs : slots ≤ ms) :
    vx_W p l e R s m args below meth c H locs cells slots (vx_MQ below Qc XC args s mc ms free) (F0 m pc ls rest) q := by
  intro T hT X
  obtain ⟨st1, hrun, hend, hW, hsm⟩ := X.leaveThrown q (g := F0 m pc ls rest) rfl rfl rfl hout hlocks
  have hcell9 : (T.setFrames (.throwing q :: below)).heap[q]? = some ce := by
    show T.heap[q]? = some ce
    rw [hT]; exact hcell
  exact ⟨_, st1, .threw q, hrun, hend, Or.inr ⟨q, rfl, E, ce, locs, hx _ hT hW.alike, hcell9, hv, hcl, hW, hsm.mono hc hs, hf⟩⟩
theorem vx_frame {U : State} {k n : Nat} (h : s.sameButNew ({ U with vm := s.vm } : State) locs k n) : s.heap.size ≤ U.heap.size ∧ ∀ q : Nat, q < s.heap.size → (∀ z ∈ locs, z.base ≠ q) → U.heap[q]? = s.heap[q]? := by
  obtain ⟨-, h2, -, -, -, h6⟩ := h
  refine ⟨h2, fun q hq hz => ?_⟩
  obtain ⟨c9, e1, e2, e3, e4⟩ := h6 q _ (Array.getElem?_eq_getElem hq)
  have hs : c9.slots = (s.heap[q]).slots := Array.ext_getElem? fun i => e4 i fun hm => hz _ hm rfl
  have h9 : c9 = s.heap[q] := by
    rw [hs] at e2
    exact e2
  have e5 : U.heap[q]? = some c9 := e1
  rw [e5, h9, Array.getElem?_eq_getElem hq]
/-- the words of a throw but the four that speak of the heap -/
def vx_no (w : Cond) : Bool := decide (w ≠ .isRef (.static Bundle.tN "UNASSIGNED_STACK" Bundle.steD)) && decide (w ≠ .isRef (.static Bundle.tN "SUPPRESSED_SENTINEL" Bundle.listD)) && decide (w ≠ .laysStatic Bundle.tN "UNASSIGNED_STACK" Bundle.steD) && decide (w ≠ .laysStatic Bundle.tN "SUPPRESSED_SENTINEL" Bundle.listD)
def vx_at0 (own : String) (ic : Nat) (X : String) (names : List String) : List Cond := (Bundle.ownAtoms0 own ic X names).filter vx_no
def vx_atS (own : String) (ic : Nat) (X : String) (names : List String) : List Cond := (Bundle.ownAtoms own ic X names).filter vx_no
/-- a word that the tables alone decide, or a good one -/
def vx_ot (w : Cond) : Bool := w.onTables || goodWord w
theorem vx_ot_at {args a' : Array Value} {s U : State} {w : Cond} (hW : s.WarmedH U.vm) (hvm : s.vm = U.vm) (hg : vx_ot w = true) (h : w.before args s = true) : w.before a' U = true := by
  simp only [vx_ot, Bool.or_eq_true] at hg
  rcases hg with hg | hg
  · exact va_tabs hg hvm h
  · exact word_at hW (good_of_word hg) h
/-- a list's words: the good ones out of the method's own list, the others by premises of their own -/
theorem vx_hat {args : Array Value} {s : State} {L B : List Cond} (h1 : ∀ w ∈ L.filter goodWord, w.before args s = true) (h2 : ∀ w ∈ L.filter (fun w => !goodWord w), w ∈ B) (h3 : ∀ w ∈ B, w.before args s = true) : ∀ w ∈ L, w.before args s = true := by
  intro w hw
  by_cases g : goodWord w = true
  · exact h1 w (List.mem_filter.mpr ⟨hw, g⟩)
  · refine h3 w (h2 w (List.mem_filter.mpr ⟨hw, ?_⟩))
    show (!goodWord w) = true
    cases hgw : goodWord w
    · rfl
    · exact absurd hgw g
theorem vx_c {args : Array Value} {s : State} {w : Cond} {B : List Cond} (h : w.before args s = true) (t : ∀ w ∈ B, w.before args s = true) : ∀ w' ∈ w :: B, w'.before args s = true := fun w' h' => (List.mem_cons.mp h').elim (fun e => by rw [e]; exact h) (t w')
theorem vx_n {args : Array Value} {s : State} : ∀ w ∈ ([] : List Cond), w.before args s = true := fun _ h => nomatch h
theorem vx_own {args : Array Value} {s : State} {L : List Cond} (h1 : ∀ w ∈ L.filter vx_no, w.before args s = true)
    (hU : (Cond.isRef (.static Bundle.tN "UNASSIGNED_STACK" Bundle.steD)).before args s = true) (hN : (Cond.isRef (.static Bundle.tN "SUPPRESSED_SENTINEL" Bundle.listD)).before args s = true)
    (lU : (Cond.laysStatic Bundle.tN "UNASSIGNED_STACK" Bundle.steD).before args s = true) (lN : (Cond.laysStatic Bundle.tN "SUPPRESSED_SENTINEL" Bundle.listD).before args s = true) : ∀ w ∈ L, w.before args s = true := by
  intro w hw
  by_cases e1 : w = .isRef (.static Bundle.tN "UNASSIGNED_STACK" Bundle.steD)
  · rw [e1]; exact hU
  · by_cases e2 : w = .isRef (.static Bundle.tN "SUPPRESSED_SENTINEL" Bundle.listD)
    · rw [e2]; exact hN
    · by_cases e3 : w = .laysStatic Bundle.tN "UNASSIGNED_STACK" Bundle.steD
      · rw [e3]; exact lU
      · by_cases e4 : w = .laysStatic Bundle.tN "SUPPRESSED_SENTINEL" Bundle.listD
        · rw [e4]; exact lN
        · exact h1 w (List.mem_filter.mpr ⟨hw, by unfold vx_no; rw [decide_eq_true e1, decide_eq_true e2, decide_eq_true e3, decide_eq_true e4]; rfl⟩)
/-- where a static field lies, its class's statics cell in H -/
def vx_L (C n d : String) (A : Nat → Prop) (U : State) (H : Heap) : Prop := ∃ (c : ClassId) (k : Class) (i : Nat) (f : Field) (a : Nat) (cell : Cell), U.vm.findClass C = some c ∧ U.fieldFound? C n d = some (c, k, i, f) ∧ f.isStatic = true ∧ k.statics = some a ∧ H[a]? = some cell ∧ cell.vm.isStatics = true ∧ cell.cls = c ∧ f.slot < cell.slots.size ∧ k.staticTypes[f.slot]? = some f.type ∧ ¬ A a
theorem vx_L.moved {C n d : String} {A : Nat → Prop} {u U : State} {H : Heap} (hvm : u.vm.Alike U.vm) (h : vx_L C n d A u H) : vx_L C n d A U H := by
  obtain ⟨c, k, i, f, a, cell, h1, h2, h3, h4, h5, h6, h7, h8, h9, h10⟩ := h
  obtain ⟨k', hi', he⟩ := State.fieldFound?_setVm hvm h2
  exact ⟨c, k', i, f, a, cell, by rw [hvm.findClass]; exact h1, hi', h3, by rw [he]; exact h4, h5, h6, h7, h8, by rw [he]; exact h9, h10⟩
theorem vx_L.kept {C n d : String} {A : Nat → Prop} {U : State} {H H1 : Heap} (h : vx_L C n d A U H) (hq : ∀ a : Nat, a < H.size → ¬ A a → H1[a]? = H[a]?) : vx_L C n d A U H1 := by
  obtain ⟨c, k, i, f, a, cell, h1, h2, h3, h4, h5, h6, h7, h8, h9, h10⟩ := h
  exact ⟨c, k, i, f, a, cell, h1, h2, h3, h4, by rw [hq a (Array.getElem?_eq_some_iff.mp h5).1 h10]; exact h5, h6, h7, h8, h9, h10⟩
theorem vx_L.narrow {C n d : String} {A B : Nat → Prop} {U : State} {H : Heap} (h : vx_L C n d A U H) (hAB : ∀ q, B q → A q) : vx_L C n d B U H := by
  obtain ⟨c, k, i, f, a, cell, h1, h2, h3, h4, h5, h6, h7, h8, h9, h10⟩ := h
  exact ⟨c, k, i, f, a, cell, h1, h2, h3, h4, h5, h6, h7, h8, h9, fun z => h10 (hAB _ z)⟩
theorem vx_L.word {C n d : String} {A : Nat → Prop} {s : State} {args : Array Value} (h : vx_L C n d A s s.heap) : (Cond.laysStatic C n d).before args s = true := by
  obtain ⟨c, k, i, f, a, cell, h1, h2, h3, h4, h5, h6, h7, h8, h9, -⟩ := h
  show (Cond.laysStatic C n d).holds args s none s [] = true
  exact Cond.laysStatic_of h1 h2 h3 h4 h5 h6 h7 h8 h9
/-- .. and what it holds: null or some reference -/
def vx_Zq (C n d : String) (A : Nat → Prop) (U : State) (H : Heap) : Prop := va_Zq C n d A U H ∧ vx_L C n d A U H
theorem vx_Zq.moved {C n d : String} {A : Nat → Prop} {u U : State} {H : Heap} (hvm : u.vm.Alike U.vm) (h : vx_Zq C n d A u H) : vx_Zq C n d A U H := ⟨va_Zq.moved hvm h.1, vx_L.moved hvm h.2⟩
theorem vx_Zq.kept {C n d : String} {A : Nat → Prop} {U : State} {H H1 : Heap} (h : vx_Zq C n d A U H) (hq : ∀ a : Nat, a < H.size → ¬ A a → H1[a]? = H[a]?) : vx_Zq C n d A U H1 := ⟨va_Zq.kept h.1 hq, vx_L.kept h.2 hq⟩
theorem vx_Zq.narrow {C n d : String} {A B : Nat → Prop} {U : State} {H : Heap} (h : vx_Zq C n d A U H) (hAB : ∀ q, B q → A q) : vx_Zq C n d B U H := ⟨va_Zq.narrow h.1 hAB, vx_L.narrow h.2 hAB⟩
theorem vx_Zqof {args : Array Value} {s : State} {C n d : String} {A : Nat → Prop} (hl : (Cond.laysStatic C n d).before args s = true) (hini : (Cond.initialized C).before args s = true) (h : (Cond.isRef (.static C n d)).before args s = true) (hA : ∀ a : Nat, a < s.heap.size → ¬ A a) : vx_Zq C n d A s s.heap := by
  refine ⟨va_Zqof hl hini h hA, ?_⟩
  obtain ⟨c, k, i, f, a, cell, h1, h2, h3, h4, h5, h6, h7, h8, h9⟩ := Cond.laysStatic_spec hl
  exact ⟨c, k, i, f, a, cell, h1, h2, h3, h4, h5, h6, h7, h8, h9, hA a (Array.getElem?_eq_some_iff.mp h5).1⟩
theorem vx_isRef {C n d : String} {v : Value} {A : Nat → Prop} {s : State} {args : Array Value} (h : va_Z C n d v A s s.heap) (hv : v.isRef = true) : (Cond.isRef (.static C n d)).before args s = true := by
  obtain ⟨cf, kf, fi, f, a, cell, h1, h2, h3, h4, h5, h6, h7, -⟩ := h
  have he : (Term.static C n d).eval args s none [] s = some v := by
    simp [Term.eval, State.fieldNamed?, h1, h2, h4, h5, h6, h7]
  simp only [Cond.before, Cond.holds, Cond.value, he]
  cases v <;> simp_all [Value.isRef]
theorem vx_isRefq {C n d : String} {A : Nat → Prop} {s : State} {args : Array Value} (h : va_Zq C n d A s s.heap) : (Cond.isRef (.static C n d)).before args s = true := by
  rcases h with h | ⟨t, h⟩
  · exact vx_isRef h rfl
  · exact vx_isRef h rfl
/-- the same frame, seen from here: as if the method were called anew in this heap -/
theorem vx_rebase {T : State} (X : Stand p l e R s m args below meth c T locs cells slots) {R' : Room} (hf : R'.frames ≤ R.frames) (hl : R'.locals ≤ R.locals) (hc : cells + R'.cells ≤ R.cells) (hs : slots + R'.slots ≤ R.slots) :
    Stand p l e R' ((T.setVm s.vm).setFrames (.invoking m args :: below)) m args below meth c T [] 0 0 := by
  have htop : (T.setVm s.vm).topJava?.isSome := X.here.top
  have hF : ((T.setVm s.vm).setFrames (.invoking m args :: below)).frames = .invoking m args :: below := State.frames_setFrames _ (State.cur_lt_of_top htop)
  obtain ⟨g₀, hg0⟩ := Option.isSome_iff_exists.mp htop
  obtain ⟨r, hr⟩ := State.topJava?_eq_some.mp hg0
  have hl9 : e.platform.stackLimits (T.setVm s.vm).me = e.platform.stackLimits s.me := X.limits
  have hb9 : (T.setVm s.vm).me.stackBytes = s.me.stackBytes := X.bytes
  refine ⟨X.admits, X.cas, X.clock, hF, ?_, X.hears, X.method, X.code, X.here, X.tail, X.warmed, ?_, ?_, ?_⟩
  · have h := X.room
    have hU : ((T.setVm s.vm).setFrames (.invoking m args :: below)).localsInUse = s.localsInUse := by
      rw [State.localsInUse_invoking hF (meth := meth) (c := c) X.method X.code, State.localsInUse_invoking X.frames X.method X.code]
    simp only [State.hasRoom, Bool.and_eq_true, decide_eq_true_eq] at h ⊢
    obtain ⟨⟨⟨⟨h1, h2, h3, h4, h5, h6⟩, h7⟩, h8⟩, h9⟩ := h
    rw [X.frames, List.length_cons] at h2 h3
    have q1 := X.heapSize
    have q2 := X.used
    simp only [hF, hU, List.length_cons, State.stackLimits_setFrames, State.stackBytes_setFrames, hl9, hb9]
    refine ⟨⟨⟨⟨by omega, by omega, by omega, by omega, by omega, h6⟩, ?_⟩, ?_⟩, X.book⟩
    · show T.heap.size + R'.cells ≤ e.platform.maxCells
      omega
    · show T.slotsUsed + R'.slots ≤ e.platform.maxSlots
      omega
  · rw [State.stackLimits_setFrames]; rfl
  · rw [State.stackBytes_setFrames]; rfl
  · refine ⟨?_, Nat.le_refl _, Nat.le_refl _, ?_, ?_, fun a c9 h9 => ⟨c9, h9, rfl, rfl, fun _ _ => rfl⟩⟩
    · obtain ⟨t, ht, -⟩ := State.frames_cons hr
      show T.setVm s.vm = { ((T.setVm s.vm).setFrames (.invoking m args :: below)).setFrames (T.setVm s.vm).frames with heap := T.heap, slotsUsed := T.slotsUsed }
      rw [State.setFrames_setFrames, State.setFrames_self ht]
      rfl
    · show T.slotsUsed = T.slotsUsed + ((T.heap.toList.drop T.heap.size).map (·.slots.size)).sum
      rw [List.drop_eq_nil_of_le (Nat.le_of_eq Array.length_toList)]
      rfl
    · show ((T.heap.toList.drop T.heap.size).map (·.slots.size)).sum ≤ 0
      rw [List.drop_eq_nil_of_le (Nat.le_of_eq Array.length_toList)]
      exact Nat.le_refl _
/-- 'throw new E()': new; dup; invokespecial; athrow -/
theorem vx_throw0 {cc : ByteArray} {pc : Nat} (hexec : p.tables.exec = Jvm.exec) (hb : c.code = cc) (hl : l.stackTraces = false) {own cls : String} {names : List String} {ik ic mc ms : Nat} {A : Nat → Prop}
    (hown : s.vm.findClass own = some m.cls) (hcls : Bundle.fit cls = true) (hnames : ∀ n ∈ names, Bundle.fit n = true)
    (hk : (Cond.classLink own ik cls).before args s = true) (hini : (Cond.initialized cls).before args s = true) (hat : ∀ w ∈ vx_at0 own ic cls names, w.before args s = true)
    (hgood : ∀ w ∈ Cond.classLink own ik cls :: Cond.initialized cls :: vx_at0 own ic cls names, vx_ot w = true)
    (hU : vx_Zq Bundle.tN "UNASSIGNED_STACK" Bundle.steD A s s.heap) (hN : vx_Zq Bundle.tN "SUPPRESSED_SENTINEL" Bundle.listD A s s.heap) (hS : va_S A s.heap H locs) (hsize : ls.size = c.maxLocals)
    (d0 : decode cc pc = .ok (.new ik, 3)) (d3 : decode cc (pc + 3) = .ok (.dup, 1)) (d4 : decode cc (pc + 4) = .ok (.invokespecial ic, 3)) (d7 : decode cc (pc + 7) = .ok (.athrow, 1))
    (hout : ∀ x ∈ c.exceptionTable.toList, covers x (pc + 7) = false)
    (hRframes : names.length + 3 < R.frames) (hRlocals : (rest.map fun v => v.category).sum + (13 * (names.length + 1) + 42) ≤ R.locals) (hRcells : cells + 1 ≤ R.cells) (hRslots : slots + 6 ≤ R.slots) (hlocks : meth.locks = false)
    (hx : ∀ t : State, s.vm.Alike t.vm → H.size ≤ t.heap.size → (∀ q : Nat, q < H.size → t.heap[q]? = H[q]?) → XC cls s t)
    (hf : ∀ z ∈ locs, free z.base) (hc : cells + 1 ≤ mc) (hs : slots + 6 ≤ ms) :
    W p l e R s m args below meth c H locs cells slots (vx_MQ below Qc XC args s mc ms free) (F0 m pc ls rest) := by
  intro T hT X
  have htr : e.platform.stackTraces = false := (show e.platform.stackTraces = l.stackTraces by rw [X.admits.platform]).trans hl
  have Y := vx_rebase X (R' := { frames := R.frames, locals := R.locals, cells := 1, slots := 6 }) (Nat.le_refl _) (Nat.le_refl _) hRcells hRslots
  obtain ⟨s', hA⟩ : ∃ z, z = (T.setVm s.vm).setFrames (.invoking m args :: below) := ⟨_, rfl⟩
  rw [← hA] at Y
  have hvm : s'.vm = s.vm := by rw [hA]; rfl
  have hhp : s'.heap = H := by rw [hA]; exact hT
  have hW0 : s.WarmedH s'.vm := by rw [hvm]; exact State.WarmedH.refl s
  have hat' : ∀ w ∈ vx_at0 own ic cls names, w.before args s' = true := fun w hw => vx_ot_at hW0 hvm.symm (hgood w (List.mem_cons_of_mem _ (List.mem_cons_of_mem _ hw))) (hat w hw)
  have hk' : (Cond.classLink own ik cls).before args s' = true := vx_ot_at hW0 hvm.symm (hgood _ List.mem_cons_self) hk
  have hini' : (Cond.initialized cls).before args s' = true := vx_ot_at hW0 hvm.symm (hgood _ (List.mem_cons_of_mem _ List.mem_cons_self)) hini
  have hU' : vx_Zq Bundle.tN "UNASSIGNED_STACK" Bundle.steD A s' s'.heap := by rw [hhp]; exact vx_Zq.moved hW0.alike (hU.kept hS.2.1)
  have hN' : vx_Zq Bundle.tN "SUPPRESSED_SENTINEL" Bundle.listD A s' s'.heap := by rw [hhp]; exact vx_Zq.moved hW0.alike (hN.kept hS.2.1)
  have h : ∀ w ∈ Bundle.ownAtoms0 own ic cls names, w.before args s' = true := vx_own hat' (vx_isRefq hU'.1) (vx_isRefq hN'.1) hU'.2.word hN'.2.word
  have hown' : s'.vm.findClass own = some m.cls := by rw [hvm]; exact hown
  have hins : (Cond.instantiable cls 6).before args s' = true := h _ (by simp [Bundle.ownAtoms0])
  obtain ⟨vm₁, cX, kX, hfX, hkX, -, -, X₁, st1⟩ := Y.newCold hexec (own := own) (C := cls) (index := ik) (n := 6) hown' hk' hins hini'
    (g := F0 m pc ls rest) rfl (by rw [hb]; exact d0) (Nat.le_refl _) (Nat.le_refl _)
  generalize hT1 : (T.setVm vm₁).pushCell { cls := cX, slots := kX.instanceTypes.map defaultValue, vm := .none } = T1 at X₁ st1
  have hcat : (Value.ref T.heap.size).category = 1 := rfl
  have hcellA : T1.heap[T.heap.size]? = some (freshCell cX kX) := by rw [← hT1]; exact State.heap_pushCell_size _ _
  have d3' : decode c.code (pc + 3) = .ok (.dup, 1) := by rw [hb]; exact d3
  obtain ⟨U, hsteps, hrun, hend, hW, hsame, ce, hce, hO⟩ := X₁.ctorThrow0 hexec htr (own := own) (cls := cls) (names := names) (ic := ic) hown' hcls hnames h (fun x hx => nomatch hx) hfX hkX hcellA (by rw [hhp, hT]; exact Nat.le_refl _)
    (g := { method := m, pc := pc + 4, locals := ls, stack := .ref T.heap.size :: .ref T.heap.size :: rest, locked := none }) rfl hsize rfl rfl (rest := rest) rfl
    (by rw [hb]; exact d4) (by rw [hb]; exact d7) hout hRframes (by simp only [List.map_cons, List.sum_cons, hcat]; omega) hlocks
  obtain ⟨f1, f2⟩ := vx_frame hsame
  rw [hhp] at f1 f2
  have hWs : s.WarmedH U.vm := State.WarmedH.trans hW0 hW
  have hcl : s.vm.findClass cls = some ce.cls := by
    have h9 := hO.cls
    rw [hvm] at h9
    exact h9
  have hall : s.sameButNew ({ U with vm := s.vm } : State) locs mc ms := by
    subst hA
    obtain ⟨e1, e2⟩ := hsame
    rw [State.setFrames_setFrames] at e1
    have h2 : (T.setVm s.vm).sameButNew ({ U with vm := s.vm } : State) [] (0 + 1) (0 + 6) := ⟨e1, e2⟩
    have h3 := X.same.trans h2
    rw [List.append_nil] at h3
    exact h3.mono hc hs
  refine ⟨U, ?_, .threw T.heap.size, hrun, hend, Or.inr ⟨T.heap.size, rfl, cls, ce, locs, hx U hWs.alike f1 (fun q hq => f2 q hq (fun z hz => nomatch hz)), hce, hO.vm, hcl, hWs, hall, hf⟩⟩
  refine st1 _ ?_
  show Steps p.tables e below (T1.setTop { method := m, pc := pc + 3, locals := ls, stack := .ref T.heap.size :: rest, locked := none }) _
  jvm_step X₁.here [X₁.here.top, hexec, d3', Value.category]
  exact hsteps
/-- 'throw new E("text")': new; dup; ldc; invokespecial; athrow -/
theorem vx_throwS {cc : ByteArray} {pc : Nat} (hexec : p.tables.exec = Jvm.exec) (hb : c.code = cc) (hl : l.stackTraces = false) {own cls text : String} {names : List String} {ik is ic mc ms sa : Nat} {A : Nat → Prop}
    (hown : s.vm.findClass own = some m.cls) (hcls : Bundle.fit cls = true) (hnames : ∀ n ∈ names, Bundle.fit n = true)
    (hk : (Cond.classLink own ik cls).before args s = true) (hini : (Cond.initialized cls).before args s = true) (hstr : vk_R own is text sa s) (hat : ∀ w ∈ vx_atS own ic cls names, w.before args s = true)
    (hgood : ∀ w ∈ Cond.classLink own ik cls :: Cond.initialized cls :: vx_atS own ic cls names, vx_ot w = true)
    (hU : vx_Zq Bundle.tN "UNASSIGNED_STACK" Bundle.steD A s s.heap) (hN : vx_Zq Bundle.tN "SUPPRESSED_SENTINEL" Bundle.listD A s s.heap) (hS : va_S A s.heap H locs) (hsize : ls.size = c.maxLocals)
    (d0 : decode cc pc = .ok (.new ik, 3)) (d3 : decode cc (pc + 3) = .ok (.dup, 1)) (d4 : decode cc (pc + 4) = .ok (.ldc is, 2)) (d6 : decode cc (pc + 6) = .ok (.invokespecial ic, 3)) (d9 : decode cc (pc + 9) = .ok (.athrow, 1))
    (hout : ∀ x ∈ c.exceptionTable.toList, covers x (pc + 9) = false)
    (hRframes : names.length + 3 < R.frames) (hRlocals : (rest.map fun v => v.category).sum + (13 * (names.length + 1) + 43) ≤ R.locals) (hRcells : cells + 1 ≤ R.cells) (hRslots : slots + 6 ≤ R.slots) (hlocks : meth.locks = false)
    (hx : ∀ t : State, s.vm.Alike t.vm → H.size ≤ t.heap.size → (∀ q : Nat, q < H.size → t.heap[q]? = H[q]?) → XC cls s t)
    (hf : ∀ z ∈ locs, free z.base) (hc : cells + 1 ≤ mc) (hs : slots + 6 ≤ ms) :
    W p l e R s m args below meth c H locs cells slots (vx_MQ below Qc XC args s mc ms free) (F0 m pc ls rest) := by
  intro T hT X
  have htr : e.platform.stackTraces = false := (show e.platform.stackTraces = l.stackTraces by rw [X.admits.platform]).trans hl
  have Y := vx_rebase X (R' := { frames := R.frames, locals := R.locals, cells := 1, slots := 6 }) (Nat.le_refl _) (Nat.le_refl _) hRcells hRslots
  obtain ⟨s', hA⟩ : ∃ z, z = (T.setVm s.vm).setFrames (.invoking m args :: below) := ⟨_, rfl⟩
  rw [← hA] at Y
  have hvm : s'.vm = s.vm := by rw [hA]; rfl
  have hhp : s'.heap = H := by rw [hA]; exact hT
  have hW0 : s.WarmedH s'.vm := by rw [hvm]; exact State.WarmedH.refl s
  have hat' : ∀ w ∈ vx_atS own ic cls names, w.before args s' = true := fun w hw => vx_ot_at hW0 hvm.symm (hgood w (List.mem_cons_of_mem _ (List.mem_cons_of_mem _ hw))) (hat w hw)
  have hk' : (Cond.classLink own ik cls).before args s' = true := vx_ot_at hW0 hvm.symm (hgood _ List.mem_cons_self) hk
  have hini' : (Cond.initialized cls).before args s' = true := vx_ot_at hW0 hvm.symm (hgood _ (List.mem_cons_of_mem _ List.mem_cons_self)) hini
  have hU' : vx_Zq Bundle.tN "UNASSIGNED_STACK" Bundle.steD A s' s'.heap := by rw [hhp]; exact vx_Zq.moved hW0.alike (hU.kept hS.2.1)
  have hN' : vx_Zq Bundle.tN "SUPPRESSED_SENTINEL" Bundle.listD A s' s'.heap := by rw [hhp]; exact vx_Zq.moved hW0.alike (hN.kept hS.2.1)
  have h : ∀ w ∈ Bundle.ownAtoms own ic cls names, w.before args s' = true := vx_own hat' (vx_isRefq hU'.1) (vx_isRefq hN'.1) hU'.2.word hN'.2.word
  have hown' : s'.vm.findClass own = some m.cls := by rw [hvm]; exact hown
  have hins : (Cond.instantiable cls 6).before args s' = true := h _ (by simp [Bundle.ownAtoms])
  obtain ⟨vm₁, cX, kX, hfX, hkX, -, -, X₁, st1⟩ := Y.newCold hexec (own := own) (C := cls) (index := ik) (n := 6) hown' hk' hins hini'
    (g := F0 m pc ls rest) rfl (by rw [hb]; exact d0) (Nat.le_refl _) (Nat.le_refl _)
  generalize hT1 : (T.setVm vm₁).pushCell { cls := cX, slots := kX.instanceTypes.map defaultValue, vm := .none } = T1 at X₁ st1
  have hcat : (Value.ref T.heap.size).category = 1 := rfl
  have hcellA : T1.heap[T.heap.size]? = some (freshCell cX kX) := by rw [← hT1]; exact State.heap_pushCell_size _ _
  have d3' : decode c.code (pc + 3) = .ok (.dup, 1) := by rw [hb]; exact d3
  have d4' : decode c.code (pc + 4) = .ok (.ldc is, 2) := by rw [hb]; exact d4
  have hstr' : vk_R own is text sa s' := vk_R.warm hW0 hstr
  obtain ⟨U, hsteps, hrun, hend, hW, hsame, ce, hce, hO⟩ := X₁.ctorThrowS hexec htr (own := own) (cls := cls) (names := names) (ic := ic) hown' hcls hnames h (fun x hx => nomatch hx) hfX hkX hcellA (by rw [hhp, hT]; exact Nat.le_refl _) (msg := .ref sa) rfl
    (g := { method := m, pc := pc + 6, locals := ls, stack := .ref sa :: .ref T.heap.size :: .ref T.heap.size :: rest, locked := none }) rfl hsize rfl rfl (rest := rest) rfl
    (by rw [hb]; exact d6) (by rw [hb]; exact d9) hout hRframes (by simp only [List.map_cons, List.sum_cons, hcat]; omega) hlocks
  obtain ⟨f1, f2⟩ := vx_frame hsame
  rw [hhp] at f1 f2
  have hWs : s.WarmedH U.vm := State.WarmedH.trans hW0 hW
  have hcl : s.vm.findClass cls = some ce.cls := by
    have h9 := hO.cls
    rw [hvm] at h9
    exact h9
  have hall : s.sameButNew ({ U with vm := s.vm } : State) locs mc ms := by
    subst hA
    obtain ⟨e1, e2⟩ := hsame
    rw [State.setFrames_setFrames] at e1
    have h2 : (T.setVm s.vm).sameButNew ({ U with vm := s.vm } : State) [] (0 + 1) (0 + 6) := ⟨e1, e2⟩
    have h3 := X.same.trans h2
    rw [List.append_nil] at h3
    exact h3.mono hc hs
  refine ⟨U, ?_, .threw T.heap.size, hrun, hend, Or.inr ⟨T.heap.size, rfl, cls, ce, locs, hx U hWs.alike f1 (fun q hq => f2 q hq (fun z hz => nomatch hz)), hce, hO.vm, hcl, hWs, hall, hf⟩⟩
  refine st1 _ ?_
  show Steps p.tables e below (T1.setTop { method := m, pc := pc + 3, locals := ls, stack := .ref T.heap.size :: rest, locked := none }) _
  jvm_step X₁.here [X₁.here.top, hexec, d3', Value.category]
  exact X₁.ldcString hexec (own := own) (text := text) (index := is) (a := sa) hown' hstr'.1 hstr'.2
    (g := { method := m, pc := pc + 4, locals := ls, stack := .ref T.heap.size :: .ref T.heap.size :: rest, locked := none }) rfl d4' _ hsteps
/-- 'throw new E("text")', the text by a wide index -/
theorem vx_throwSW {cc : ByteArray} {pc : Nat} (hexec : p.tables.exec = Jvm.exec) (hb : c.code = cc) (hl : l.stackTraces = false) {own cls text : String} {names : List String} {ik is ic mc ms sa : Nat} {A : Nat → Prop}
    (hown : s.vm.findClass own = some m.cls) (hcls : Bundle.fit cls = true) (hnames : ∀ n ∈ names, Bundle.fit n = true)
    (hk : (Cond.classLink own ik cls).before args s = true) (hini : (Cond.initialized cls).before args s = true) (hstr : vk_R own is text sa s) (hat : ∀ w ∈ vx_atS own ic cls names, w.before args s = true)
    (hgood : ∀ w ∈ Cond.classLink own ik cls :: Cond.initialized cls :: vx_atS own ic cls names, vx_ot w = true)
    (hU : vx_Zq Bundle.tN "UNASSIGNED_STACK" Bundle.steD A s s.heap) (hN : vx_Zq Bundle.tN "SUPPRESSED_SENTINEL" Bundle.listD A s s.heap) (hS : va_S A s.heap H locs) (hsize : ls.size = c.maxLocals)
    (d0 : decode cc pc = .ok (.new ik, 3)) (d3 : decode cc (pc + 3) = .ok (.dup, 1)) (d4 : decode cc (pc + 4) = .ok (.ldc_w is, 3)) (d7 : decode cc (pc + 7) = .ok (.invokespecial ic, 3)) (d10 : decode cc (pc + 10) = .ok (.athrow, 1))
    (hout : ∀ x ∈ c.exceptionTable.toList, covers x (pc + 10) = false)
    (hRframes : names.length + 3 < R.frames) (hRlocals : (rest.map fun v => v.category).sum + (13 * (names.length + 1) + 43) ≤ R.locals) (hRcells : cells + 1 ≤ R.cells) (hRslots : slots + 6 ≤ R.slots) (hlocks : meth.locks = false)
    (hx : ∀ t : State, s.vm.Alike t.vm → H.size ≤ t.heap.size → (∀ q : Nat, q < H.size → t.heap[q]? = H[q]?) → XC cls s t)
    (hf : ∀ z ∈ locs, free z.base) (hc : cells + 1 ≤ mc) (hs : slots + 6 ≤ ms) :
    W p l e R s m args below meth c H locs cells slots (vx_MQ below Qc XC args s mc ms free) (F0 m pc ls rest) := by
  intro T hT X
  have htr : e.platform.stackTraces = false := (show e.platform.stackTraces = l.stackTraces by rw [X.admits.platform]).trans hl
  have Y := vx_rebase X (R' := { frames := R.frames, locals := R.locals, cells := 1, slots := 6 }) (Nat.le_refl _) (Nat.le_refl _) hRcells hRslots
  obtain ⟨s', hA⟩ : ∃ z, z = (T.setVm s.vm).setFrames (.invoking m args :: below) := ⟨_, rfl⟩
  rw [← hA] at Y
  have hvm : s'.vm = s.vm := by rw [hA]; rfl
  have hhp : s'.heap = H := by rw [hA]; exact hT
  have hW0 : s.WarmedH s'.vm := by rw [hvm]; exact State.WarmedH.refl s
  have hat' : ∀ w ∈ vx_atS own ic cls names, w.before args s' = true := fun w hw => vx_ot_at hW0 hvm.symm (hgood w (List.mem_cons_of_mem _ (List.mem_cons_of_mem _ hw))) (hat w hw)
  have hk' : (Cond.classLink own ik cls).before args s' = true := vx_ot_at hW0 hvm.symm (hgood _ List.mem_cons_self) hk
  have hini' : (Cond.initialized cls).before args s' = true := vx_ot_at hW0 hvm.symm (hgood _ (List.mem_cons_of_mem _ List.mem_cons_self)) hini
  have hU' : vx_Zq Bundle.tN "UNASSIGNED_STACK" Bundle.steD A s' s'.heap := by rw [hhp]; exact vx_Zq.moved hW0.alike (hU.kept hS.2.1)
  have hN' : vx_Zq Bundle.tN "SUPPRESSED_SENTINEL" Bundle.listD A s' s'.heap := by rw [hhp]; exact vx_Zq.moved hW0.alike (hN.kept hS.2.1)
  have h : ∀ w ∈ Bundle.ownAtoms own ic cls names, w.before args s' = true := vx_own hat' (vx_isRefq hU'.1) (vx_isRefq hN'.1) hU'.2.word hN'.2.word
  have hown' : s'.vm.findClass own = some m.cls := by rw [hvm]; exact hown
  have hins : (Cond.instantiable cls 6).before args s' = true := h _ (by simp [Bundle.ownAtoms])
  obtain ⟨vm₁, cX, kX, hfX, hkX, -, -, X₁, st1⟩ := Y.newCold hexec (own := own) (C := cls) (index := ik) (n := 6) hown' hk' hins hini'
    (g := F0 m pc ls rest) rfl (by rw [hb]; exact d0) (Nat.le_refl _) (Nat.le_refl _)
  generalize hT1 : (T.setVm vm₁).pushCell { cls := cX, slots := kX.instanceTypes.map defaultValue, vm := .none } = T1 at X₁ st1
  have hcat : (Value.ref T.heap.size).category = 1 := rfl
  have hcellA : T1.heap[T.heap.size]? = some (freshCell cX kX) := by rw [← hT1]; exact State.heap_pushCell_size _ _
  have d3' : decode c.code (pc + 3) = .ok (.dup, 1) := by rw [hb]; exact d3
  have d4' : decode c.code (pc + 4) = .ok (.ldc_w is, 3) := by rw [hb]; exact d4
  have hstr' : vk_R own is text sa s' := vk_R.warm hW0 hstr
  obtain ⟨U, hsteps, hrun, hend, hW, hsame, ce, hce, hO⟩ := X₁.ctorThrowS hexec htr (own := own) (cls := cls) (names := names) (ic := ic) hown' hcls hnames h (fun x hx => nomatch hx) hfX hkX hcellA (by rw [hhp, hT]; exact Nat.le_refl _) (msg := .ref sa) rfl
    (g := { method := m, pc := pc + 7, locals := ls, stack := .ref sa :: .ref T.heap.size :: .ref T.heap.size :: rest, locked := none }) rfl hsize rfl rfl (rest := rest) rfl
    (by rw [hb]; exact d7) (by rw [hb]; exact d10) hout hRframes (by simp only [List.map_cons, List.sum_cons, hcat]; omega) hlocks
  obtain ⟨f1, f2⟩ := vx_frame hsame
  rw [hhp] at f1 f2
  have hWs : s.WarmedH U.vm := State.WarmedH.trans hW0 hW
  have hcl : s.vm.findClass cls = some ce.cls := by
    have h9 := hO.cls
    rw [hvm] at h9
    exact h9
  have hall : s.sameButNew ({ U with vm := s.vm } : State) locs mc ms := by
    subst hA
    obtain ⟨e1, e2⟩ := hsame
    rw [State.setFrames_setFrames] at e1
    have h2 : (T.setVm s.vm).sameButNew ({ U with vm := s.vm } : State) [] (0 + 1) (0 + 6) := ⟨e1, e2⟩
    have h3 := X.same.trans h2
    rw [List.append_nil] at h3
    exact h3.mono hc hs
  refine ⟨U, ?_, .threw T.heap.size, hrun, hend, Or.inr ⟨T.heap.size, rfl, cls, ce, locs, hx U hWs.alike f1 (fun q hq => f2 q hq (fun z hz => nomatch hz)), hce, hO.vm, hcl, hWs, hall, hf⟩⟩
  refine st1 _ ?_
  show Steps p.tables e below (T1.setTop { method := m, pc := pc + 3, locals := ls, stack := .ref T.heap.size :: rest, locked := none }) _
  jvm_step X₁.here [X₁.here.top, hexec, d3', Value.category]
  exact X₁.ldcStringW hexec (own := own) (text := text) (index := is) (a := sa) hown' hstr'.1 hstr'.2
    (g := { method := m, pc := pc + 4, locals := ls, stack := .ref T.heap.size :: .ref T.heap.size :: rest, locked := none }) rfl d4' _ hsteps
end Ends
section Bodies
variable {l : Launch}
theorem vx_ofW {y : MethodName} {ws ws' : List Cond} {rm : Room} {Pc : Array Value → State → Prop} {Qc : Array Value → State → Outcome → State → Prop} {XC : String → State → State → Prop} {mc ms : Nat} {free : Addr → Prop} {cc : ByteArray} {maxL : Nat} {ret : Option FieldType}
    (hy : plainName y.cls = true) (hw : ws = Cond.code y cc maxL ret :: ws')
    (body : ∀ p e s m args below meth c s₁, BodyLoose p l y (headSpec ws rm) cc maxL ret e s m args below meth c s₁ → c.maxLocals = maxL → (∀ x ∈ c.exceptionTable.toList, False) → Pc args s →
      W p l e (headSpec ws rm).room s m args below meth c s.heap [] 0 0 (vx_MQ below Qc XC args s mc ms free) (entryFrame m args maxL)) : vx_Met l y ws rm Pc Qc XC mc ms free := by
  refine MetFree.of_bodyS (code := cc) (maxLocals := maxL) (ret := ret) hy ?_ ?_
  · intro args s m h hn
    obtain ⟨meth, c, h1, h2, h3, h4, h5, h6, -, -⟩ := Cond.code_spec hn (atoms_spec (ws := ws) h _ (by rw [hw]; exact List.mem_cons_self))
    exact ⟨meth, c, h1, h2, h3, h4, h5, h6⟩
  · intro p e s m args below meth c s₁ B hml hP _
    have hh0 : s₁.heap = s.heap := by rw [B.state]; rfl
    have ht : ∀ x ∈ c.exceptionTable.toList, False := by
      obtain ⟨meth9, c9, h1, h2, -, -, -, -, h7, -⟩ := Cond.code_spec B.named (atoms_spec (ws := ws) B.pre _ (by rw [hw]; exact List.mem_cons_self))
      cases Option.some.inj (h1.symm.trans B.method)
      cases Option.some.inj (h2.symm.trans (Stand.of_body B).code)
      intro x hx
      rw [Array.isEmpty_iff.mp h7] at hx
      cases hx
    obtain ⟨t, a1, o, b1, b2, b3⟩ := body p e s m args below meth c s₁ B hml ht hP s₁ hh0 (Stand.of_body B)
    exact ⟨t, o, a1, b1, b2, b3⟩
/-- the table of a body with handlers -/
theorem vx_table {p : Program} {x y : MethodName} {S : Spec} {cc bytes : ByteArray} {maxL maxL' : Nat} {ret ret' : Option FieldType} {e : Env} {s s₁ : State} {m : MethodId} {args : Array Value} {below : List Frame} {meth : Method} {c : Code} {hh : List (Nat × Nat × Nat × Nat)}
    (B : BodyLoose p l y S cc maxL ret e s m args below meth c s₁) (h : (Cond.codeWith y bytes maxL' ret' hh).before args s = true) : c.exceptionTable.toList = tableOf hh := by
  obtain ⟨m9, meth9, c9, hn9, h1, h2, -, -, h6, -⟩ := Cond.codeWith_spec h
  cases Option.some.inj (hn9.symm.trans B.named)
  cases Option.some.inj (h1.symm.trans B.method)
  cases Option.some.inj (h2.symm.trans (Stand.of_body B).code)
  rw [← h6, table_eq]
end Bodies
end VXA
/-! ===== END ===== -/
/-! ===== BEGIN a static call of a method with an exception table ===== -/
section VXS
variable {p : Program} {l : Launch} {e : Env} {R : Room} {s : State} {m : MethodId} {args : Array Value} {below : List Frame} {meth : Method} {c : Code} {T : State} {H : Heap} {locs : List Loc} {cells slots : Nat}
abbrev vx_CSW (R : Room) (s : State) (args : Array Value) (own : String) (index : Nat) (y : MethodName) (bytes : ByteArray) (maxL : Nat) (ret : Option FieldType) (hh : List (Nat × Nat × Nat × Nat)) (ws : List Cond) (rm : Room) (mc ms n : Nat) : Prop :=
  (rm.cells = mc ∧ rm.slots = ms ∧ rm.frames + 1 ≤ R.frames ∧ 8 + (maxL + 11) + rm.locals ≤ R.locals ∧ (∀ w ∈ ws, ∀ (a' : Array Value) (U : State), s.WarmedH U.vm → w.before a' U = true) ∧ Cond.codeWith y bytes maxL ret hh ∈ ws) ∧
  (Cond.codeWith y bytes maxL ret hh).before args s = true ∧ (Cond.initialized y.cls).before args s = true ∧ (y.cls ≠ "java/lang/invoke/MethodHandle" ∧ y.cls ≠ "java/lang/invoke/VarHandle") ∧
  (∀ sig, parseMethodDescriptor y.desc = some sig → n = sig.parameters.length) ∧ (Cond.methodLink own index y).before args s = true ∧ (Cond.static y).before args s = true
theorem vx_cwSW {own : String} {index maxL mc ms : Nat} {y : MethodName} {bytes : ByteArray} {ret : Option FieldType} {hh : List (Nat × Nat × Nat × Nat)} {Ts ws ws' : List Cond} {rm : Room} (n : Nat) (ht : ∀ w ∈ Ts, w.before args s = true) (hT : GoodIn Ts (va_wsS own index y ws)) (hw : ws = Cond.codeWith y bytes maxL ret hh :: ws') (hrc : rm.cells = mc) (hrs : rm.slots = ms)
    (hd : y.cls ≠ "java/lang/invoke/MethodHandle" ∧ y.cls ≠ "java/lang/invoke/VarHandle" ∧ (parseMethodDescriptor y.desc).map (fun d => d.parameters.length) = some n) (hR : rm.frames + 1 ≤ R.frames ∧ 8 + (maxL + 11) + rm.locals ≤ R.locals) :
    vx_CSW R s args own index y bytes maxL ret hh ws rm mc ms n := by
  have ok : ∀ w ∈ va_wsS own index y ws, w.before args s = true := fun w h => ht w (hT w h).1
  have hG : GoodIn Ts ws := fun w h => hT w (by unfold va_wsS; exact List.mem_append_right _ h)
  have hc : Cond.codeWith y bytes maxL ret hh ∈ ws := by rw [hw]; exact List.mem_cons_self
  refine ⟨⟨hrc, hrs, hR.1, hR.2, pay_in ht hG, hc⟩, ht _ (hG _ hc).1, ok _ (by simp [va_wsS]), ⟨hd.1, hd.2.1⟩, fun sig h => ?_, ok _ (by simp [va_wsS]), ok _ (by simp [va_wsS])⟩
  have h2 := hd.2.2
  rw [h] at h2
  exact (Option.some.inj h2).symm
theorem vx_callSW (X : Stand p l e R s m args below meth c T locs cells slots) (hexec : p.tables.exec = Jvm.exec) {own : String} {index : Nat} {y : MethodName} {bytes : ByteArray} {maxL : Nat} {ret : Option FieldType} {hh : List (Nat × Nat × Nat × Nat)}
    (hown : s.vm.findClass own = some m.cls) (hlink : (Cond.methodLink own index y).before args s = true) (hstat : (Cond.static y).before args s = true) (hinit : (Cond.initialized y.cls).before args s = true)
    (hcode : (Cond.codeWith y bytes maxL ret hh).before args s = true) (hy : y.cls ≠ "java/lang/invoke/MethodHandle" ∧ y.cls ≠ "java/lang/invoke/VarHandle")
    {W9 : Nat} {Pre : Pt → Array Value → Prop} {Post : Pt → Array Value → Option Value → Pt → Prop} (hK : Back l R p e below s args y 3 W9 Pre Post)
    {g : JFrame} (hg : g.method = m) (hsize : g.locals.size = c.maxLocals) {argsL rest : List Value} (hlen : ∀ sig, parseMethodDescriptor y.desc = some sig → argsL.length = sig.parameters.length)
    (hstack : g.stack = argsL.reverse ++ rest) (hW : 2 * g.monitorRoom + (rest.map fun v => v.category).sum ≤ W9) (hdg : decode c.code g.pc = .ok (.invokestatic index, 3))
    (hpre : ∀ vm₁, s.WarmedH vm₁ → Pre ⟨T.setVm vm₁, locs, cells, slots⟩ argsL.toArray) :
    ∃ (v : Option Value) (vm₁ : Vm) (B : Pt), s.WarmedH vm₁ ∧ Stand p l e R s m args below meth c B.U B.locs B.cells B.slots ∧ Post ⟨T.setVm vm₁, locs, cells, slots⟩ argsL.toArray v B ∧
      ∀ target, Steps p.tables e below (B.U.setTop { g with pc := g.pc + 3, stack := v.toList ++ rest }) target → Steps p.tables e below (T.setTop g) target := by
  obtain ⟨mk, methM, cM, hnamed, hmethM, -, -, -, -, -, -, hsigM⟩ := Cond.codeWith_spec hcode
  have hstatic : methM.isStatic = true := Cond.static_spec hnamed hmethM hstat
  obtain ⟨kP, hkP, -⟩ := className_of_methodNamed hnamed
  have hinitP : kP.init = .initialized := Cond.initialized_spec (findClass_of_methodNamed hnamed) hkP hinit
  obtain ⟨vm₁, X₁, hstep₁⟩ := X.invokestatic hexec hown hlink hnamed hmethM hstatic hkP hinitP hy (g := g) hg (argsL := argsL) (rest := rest) (hlen _ hsigM) hstack hdg
  obtain ⟨v, B, X', hpost, hsteps⟩ := hK m meth c ⟨T.setVm vm₁, locs, cells, slots⟩ { g with stack := rest } (.invokestatic index) mk argsL.toArray X₁ hg hsize hdg hW (X₁.named hnamed) (hpre vm₁ X₁.warmed)
  exact ⟨v, vm₁, B, X₁.warmed, X', hpost, fun target h => hstep₁ _ fun acts => by rw [doInvoke_state]; exact hsteps.trans h⟩
theorem vx_runSW {y : MethodName} {bytes cc : ByteArray} {maxL nL mc ms n index : Nat} {ret : Option FieldType} {hh : List (Nat × Nat × Nat × Nat)} {ws : List Cond} {rm : Room} {Pc : Array Value → State → Prop} {Qc : Array Value → State → Outcome → State → Prop} {free : Addr → Prop} {Ts : List Cond} {own : String} {As rest : List Value} {g : JFrame}
    (S : CallFix p m c cc nL s args Ts own) (hM : Met l y ws rm Pc Qc mc ms free) (cw : vx_CSW R s args own index y bytes maxL ret hh ws rm mc ms n) (hp : PreS s H Pc As)
    (hg : g.method = m) (hn : As.length = n) (hsize : g.locals.size = nL) (hstack : g.stack = As.reverse ++ rest) (hW : 2 * g.monitorRoom + (rest.map fun v => v.category).sum ≤ 8) (hdg : decode cc g.pc = .ok (.invokestatic index, 3)) (hf : cells + mc ≤ R.cells ∧ slots + ms ≤ R.slots) :
    va_Run p l e R s m args below meth c H locs cells slots mc ms g rest (Qc As.toArray) (free) := by
  obtain ⟨⟨hrc, hrs, hfr, hlo, hws, hcw⟩, hcode, hini, hy, hlen, hl, hstt⟩ := cw
  have hK : Back l R p e below s args y 3 8 (PreOf R mc ms Pc) (PostOf Qc mc ms free) := va_backW (hh := hh) (bytes := bytes) (maxL := maxL) (ret := ret) hM hp.1 hrc hrs hfr hlo hws hcw (fun a' U hW => word_at hW (Or.inl (by first | rfl | simp [Cond.onTables, Cond.keeps, Cond.steady])) hini)
  obtain ⟨hx, hb, hml, ho, -⟩ := S
  intro T hT X
  obtain ⟨v, vm₁, ⟨U', l2, c2, s2⟩, hW₁, X', ⟨g', mk, t, L, e1, e2, hq, h1, hL, h2, h3⟩, st⟩ := vx_callSW X hx (hh := hh) (bytes := bytes) (maxL := maxL) (ret := ret) ho hl hstt hini hcode hy hK hg (hsize.trans hml.symm) (argsL := As) (rest := rest) (fun sig h => hn.trans (hlen sig h)) hstack hW (by rw [hb]; exact hdg)
    (fun vm₁ hW₁ => ⟨hf.1, hf.2, hp.2 (T.setVm vm₁) hT hW₁⟩)
  dsimp only [Pt.U, Pt.locs, Pt.cells, Pt.slots] at X' e1 e2 h1 h2 h3 st
  subst h1; subst h2; subst h3
  exact ⟨v, (T.setVm vm₁).calling g' mk As.toArray, t, U', L, hT, X', hL, e1, e2, hq, st⟩
/-- not caught here, past rows that name other classes: it goes on to the caller -/
theorem vx_outP {p : Program} {l : Launch} {e : Env} {R : Room} {s : State} {m : MethodId} {args : Array Value} {below : List Frame} {meth : Method} {c : Code} {H : Heap} {locs : List Loc} {cells slots : Nat} {free : Addr → Prop} {ls : Array Slot} {rest : List Value} {Qc : Array Value → State → Outcome → State → Prop} {XC : String → State → State → Prop}
    {pc : Nat} {own E : String} {ce : Cell} {q : Addr} {mc ms : Nat} (hown : s.vm.findClass own = some m.cls) (hlocks : meth.locks = false)
    (hpass : ∀ z ∈ c.exceptionTable.toList, covers z pc = false ∨ (z.catchType ≠ 0 ∧ ∃ nm : String, (Cond.classLink own z.catchType nm).before args s = true ∧ va_Nc E nm s)) (hcell : H[q]? = some ce) (hv : ce.vm = .none) (hcl : s.vm.findClass E = some ce.cls)
    (hx : ∀ t : State, t.heap = H → s.vm.Alike t.vm → XC E s t) (hf : ∀ z ∈ locs, free z.base) (hc : cells ≤ mc) (hs : slots ≤ ms) :
    vx_W p l e R s m args below meth c H locs cells slots (vx_MQ below Qc XC args s mc ms free) (F0 m pc ls rest) q := by
  intro T hT X
  have hpl : e.platform.magicAccessors = ({} : Platform).magicAccessors := by rw [X.admits.platform]
  obtain ⟨vm', hW', X', st⟩ := X.outThrough hlocks q (g := F0 m pc ls rest) rfl rfl rfl (cell := ce) (by rw [hT]; exact hcell) (by rw [hv]; rfl)
    (by obtain ⟨k9, h9, -⟩ := Vm.findClass_spec hcl; exact ⟨k9, h9⟩) (fun z hz => by
      rcases hpass z hz with h | ⟨hz0, nm, hl1, hn1⟩
      · exact Or.inl h
      · obtain ⟨c6, hc6, hcl6⟩ := Cond.classLink_spec hown hl1 e.platform hpl
        obtain ⟨a8, b8, h1, h2, h3⟩ := hn1
        cases Option.some.inj (h1.symm.trans hcl)
        cases Option.some.inj (h2.symm.trans hc6)
        exact Or.inr ⟨hz0, _, hcl6, h3⟩)
  obtain ⟨g₀, hfr⟩ := X'.frames_eq
  have hcell9 : ((T.setVm vm').setFrames (.throwing q :: below)).heap[q]? = some ce := by
    show T.heap[q]? = some ce
    rw [hT]; exact hcell
  have hend : Ended ((T.setVm vm').setFrames (.throwing q :: below)) below (.threw q) := State.frames_setFrames _ (State.cur_lt_of_frames hfr)
  refine ⟨(T.setVm vm').setFrames (.throwing q :: below), ?_, .threw q, X'.here.running, hend, Or.inr ⟨q, rfl, E, ce, locs, hx _ hT (X'.ends _).1.alike, hcell9, hv, hcl, (X'.ends _).1, (X'.ends _).2.mono hc hs, hf⟩⟩
  rw [X.pushThrowing_eq]
  exact st
/-- a thing of a world lies in the heap -/
theorem vx_lt {D : va_G} {cl : List vw_C} {ws : va_W} {H1 : Heap} (h : va_P D cl ws H1) {k : Nat} {q : Nat × va_E} (hk : ws[k]? = some q) : q.1 < H1.size := (h k q hk).lt
end VXS
/-! ===== END ===== -/
/-! ===== BEGIN methods with a table of their own: called by a name, returning or throwing ===== -/
section VXH
/-! vx_backW, vx_callVX, vx_callSX, vx_callVW, vx_runVW, vx_runVX, vx_runSX, vx_ofWH follow the same proofs as their sisters above (Free/Laws.lean, Shelf42/LK1.lean); vx_outP calls Shelf42/NT130.lean (outThrough). -/
section
variable {l : Launch} {R : Room} {p : Program} {e : Env} {below : List Frame} {s : State} {sargs : Array Value} {y : MethodName} {len W9 : Nat}
theorem vx_backW {ws : List Cond} {rm : Room} {Pc : Array Value → State → Prop} {Qc : Array Value → State → Outcome → State → Prop} {XC : String → State → State → Prop} {mc ms : Nat} {free : Addr → Prop} {bytes : ByteArray} {maxL : Nat} {ret : Option FieldType} {hh : List (Nat × Nat × Nat × Nat)}
    (hM : vx_Met l y ws rm Pc Qc XC mc ms free) (hblind : FrameBlind Pc) (hrc : rm.cells = mc) (hrs : rm.slots = ms)
    (hframes : rm.frames + 1 ≤ R.frames) (hlocals : W9 + (maxL + 11) + rm.locals ≤ R.locals)
    (hws : ∀ w ∈ ws, ∀ a' U, s.WarmedH U.vm → w.before a' U = true) (hcode : Cond.codeWith y bytes maxL ret hh ∈ ws) (hinit : ∀ a' U, s.WarmedH U.vm → (Cond.initialized y.cls).before a' U = true) :
    vx_Back l R p e below s sargs y len W9 (PreOf R mc ms Pc) (PostOf Qc mc ms free) (vx_Post XC mc ms free) := by
  intro m meth c A g ig mk a X hg hsize hdg hW hn hp
  have h1 : (headSpec ws rm).pre.before a A.U = true := atoms_intro fun w hw => hws w hw _ _ X.warmed
  have h2 : (Cond.codeWith y bytes maxL ret hh).before a A.U = true := hws _ hcode _ _ X.warmed
  have h3 : (Cond.initialized y.cls).before a A.U = true := hinit _ _ X.warmed
  have h4 : A.cells + (headSpec ws rm).room.cells ≤ R.cells := by rw [show (headSpec ws rm).room.cells = mc from hrc]; exact hp.1
  have h5 : A.slots + (headSpec ws rm).room.slots ≤ R.slots := by rw [show (headSpec ws rm).room.slots = ms from hrs]; exact hp.2.1
  have hPc : Pc a (A.U.calling g mk a) := hblind _ _ _ _ hp.2.2
  obtain ⟨U, Ls, c0, s0⟩ := A
  dsimp only [Pt.U, Pt.locs, Pt.cells, Pt.slots] at h1 h2 h3 h4 h5 X hn hPc ⊢
  obtain ⟨m9, methY, cY, hn9, hmY, hcY, -, hlY, -⟩ := Cond.codeWith_spec h2
  cases Option.some.inj (hn9.symm.trans hn)
  obtain ⟨kY, hkY, -⟩ := className_of_methodNamed hn
  have hinitY : kY.init = .initialized := Cond.initialized_spec (findClass_of_methodNamed hn) hkY h3
  have h : At U g.method c below := by rw [hg]; exact X.here
  have hlocals9 : W9 + (maxL + 11) + (headSpec ws rm).room.locals ≤ R.locals := hlocals
  have happ : (headSpec ws rm).appliesLoose y e.platform (U.calling g mk a) = true :=
    Spec.appliesLoose_calling (g := g) h hdg hn hkY hinitY
      (X.room_calling (g := g) (R' := (headSpec ws rm).room) hsize hmY hcY hframes (by rw [hlY]; omega) h4 h5) h1
  obtain ⟨mid, hmid⟩ := h.above
  have hfr : (U.setTop g).frames = (.java g :: mid) ++ below := by rw [State.frames_setTop' g h.top, hmid]; rfl
  obtain ⟨o, s₂, hsteps, -, hend, hq⟩ := Steps.callFree hM p X.admits X.cas X.clock (acts := []) hfr happ hPc trivial
  have hq' : vx_Q Qc XC mc ms free a (U.calling g mk a) o s₂ := hq
  rw [State.frames_setTop' g h.top] at hend
  obtain ⟨g₀, hg0⟩ := Option.isSome_iff_exists.mp h.top
  obtain ⟨r, hr⟩ := State.topJava?_eq_some.mp hg0
  have hr' : (({ U with heap := s₂.heap, slotsUsed := s₂.slotsUsed } : State).setVm s₂.vm).frames = .java g₀ :: r := hr
  rcases hq' with ⟨hqc, L, hfe, hL⟩ | ⟨q, rfl, E, ce, L, hx, hce, hcv, hcl, hW₂, hsm, hL⟩
  · obtain ⟨⟨v, rfl⟩, hW₂, e2, q2, q3, q4, q5, q6⟩ := id hfe
    have e3 : s₂ = ({ (U.calling g mk a).setFrames s₂.frames with heap := s₂.heap, slotsUsed := s₂.slotsUsed } : State).setVm s₂.vm := by
      have : s₂ = ({ s₂ with vm := (U.calling g mk a).vm } : State).setVm s₂.vm := rfl
      rw [e2] at this
      exact this
    obtain ⟨c₂, i₂, len₂, hc₂, hd₂, hf₂⟩ := hend
    have hW' : U.WarmedH s₂.vm := hW₂
    have hcc : c₂ = c := by
      have h1 : s₂.code? g.method = U.code? g.method := by
        rw [State.code?_eq, State.code?_eq, hW'.alike.method?]
      exact Option.some.inj (hc₂.symm.trans (h1.trans h.code))
    subst hcc
    have hlen : len₂ = len := by rw [hdg] at hd₂; cases hd₂; rfl
    subst hlen
    have hs₂ : s₂ = (({ U with heap := s₂.heap, slotsUsed := s₂.slotsUsed } : State).setVm s₂.vm).setTop { g with pc := g.pc + len₂, stack := v.toList ++ g.stack } := by
      refine e3.trans ?_
      rw [hf₂, State.calling_eq h.top, State.setFrames_setFrames, State.setTop_of_frames _ hr', hr]
      rfl
    have hsame : U.sameButNew ({ U with heap := s₂.heap, slotsUsed := s₂.slotsUsed } : State) L mc ms := by
      refine ⟨?_, q2, q3, q4, q5, q6⟩
      obtain ⟨t, ht, -⟩ := State.frames_cons hr
      show ({ U with heap := s₂.heap, slotsUsed := s₂.slotsUsed } : State) = { U.setFrames U.frames with heap := s₂.heap, slotsUsed := s₂.slotsUsed }
      rw [State.setFrames_self ht]
    subst hg
    refine Or.inl ⟨v, ⟨(({ U with heap := s₂.heap, slotsUsed := s₂.slotsUsed } : State).setVm s₂.vm), Ls ++ L, c0 + mc, s0 + ms⟩,
      ⟨X.admits, X.cas, X.clock, X.frames, X.room, X.hears, X.method, X.code, (X.here.setHeapUsed s₂.heap s₂.slotsUsed).setVm hW'.alike, X.tail, State.WarmedH.trans X.warmed hW', X.limits, X.bytes, X.same.trans (hsame.setVm s.vm)⟩,
      ⟨g, mk, s₂, L, rfl, rfl, hqc, rfl, hL, rfl, rfl⟩, ?_⟩
    show Steps p.tables e below _ ((({ U with heap := s₂.heap, slotsUsed := s₂.slotsUsed } : State).setVm s₂.vm).setTop { g with pc := g.pc + len₂, stack := v.toList ++ g.stack })
    rw [← hs₂]
    exact hsteps
  · obtain ⟨e2, q2, q3, q4, q5, q6⟩ := id hsm
    have e3 : s₂ = ({ (U.calling g mk a).setFrames s₂.frames with heap := s₂.heap, slotsUsed := s₂.slotsUsed } : State).setVm s₂.vm := by
      have : s₂ = ({ s₂ with vm := (U.calling g mk a).vm } : State).setVm s₂.vm := rfl
      rw [e2] at this
      exact this
    have hf₂ : s₂.frames = .throwing q :: .java g :: U.frames.tail := hend
    have hW' : U.WarmedH s₂.vm := hW₂
    have hs₂ : s₂ = ((({ U with heap := s₂.heap, slotsUsed := s₂.slotsUsed } : State).setVm s₂.vm).setTop g).pushFrame (.throwing q) := by
      refine e3.trans ?_
      rw [hf₂, State.calling_eq h.top, State.setFrames_setFrames, State.pushFrame, State.frames_setTop _ hr', State.setTop_of_frames _ hr', State.setFrames_setFrames, hr]
      rfl
    have hsame : U.sameButNew ({ U with heap := s₂.heap, slotsUsed := s₂.slotsUsed } : State) L mc ms := by
      refine ⟨?_, q2, q3, q4, q5, q6⟩
      obtain ⟨t, ht, -⟩ := State.frames_cons hr
      show ({ U with heap := s₂.heap, slotsUsed := s₂.slotsUsed } : State) = { U.setFrames U.frames with heap := s₂.heap, slotsUsed := s₂.slotsUsed }
      rw [State.setFrames_self ht]
    subst hg
    refine Or.inr ⟨q, ⟨(({ U with heap := s₂.heap, slotsUsed := s₂.slotsUsed } : State).setVm s₂.vm), Ls ++ L, c0 + mc, s0 + ms⟩,
      ⟨X.admits, X.cas, X.clock, X.frames, X.room, X.hears, X.method, X.code, (X.here.setHeapUsed s₂.heap s₂.slotsUsed).setVm hW'.alike, X.tail, State.WarmedH.trans X.warmed hW', X.limits, X.bytes, X.same.trans (hsame.setVm s.vm)⟩,
      ⟨g, mk, s₂, L, E, ce, rfl, rfl, hx, hce, hcv, hcl, rfl, hL, rfl, rfl⟩, ?_⟩
    show Steps p.tables e below _ (((({ U with heap := s₂.heap, slotsUsed := s₂.slotsUsed } : State).setVm s₂.vm).setTop g).pushFrame (.throwing q))
    rw [← hs₂]
    exact hsteps
end
variable {p : Program} {l : Launch} {e : Env} {R : Room} {s : State} {m : MethodId} {args : Array Value} {below : List Frame} {meth : Method} {c : Code} {T : State} {H : Heap} {locs : List Loc} {cells slots : Nat}
theorem vx_callVX (X : Stand p l e R s m args below meth c T locs cells slots) (hexec : p.tables.exec = Jvm.exec) {own C : String} {index : Nat} {y : MethodName} {bytes : ByteArray} {maxL : Nat} {ret : Option FieldType} {hh : List (Nat × Nat × Nat × Nat)}
    (hown : s.vm.findClass own = some m.cls) (hlink : (Cond.methodLink own index y).before args s = true) (hinst : (Cond.instanceMethod y).before args s = true) (hsel : (Cond.selects C y y).before args s = true)
    (hcode : (Cond.codeWith y bytes maxL ret hh).before args s = true) (hy : y.cls ≠ "java/lang/invoke/MethodHandle" ∧ y.cls ≠ "java/lang/invoke/VarHandle")
    {W9 : Nat} {Pre : Pt → Array Value → Prop} {Post : Pt → Array Value → Option Value → Pt → Prop} {PostX : Pt → Array Value → Addr → Pt → Prop} (hK : vx_Back l R p e below s args y 3 W9 Pre Post PostX)
    {b : Addr} {cellB : Cell} (hcell : T.heap[b]? = some cellB) (hobj : cellB.vm.isStatics = false) (hcls : s.vm.findClass C = some cellB.cls)
    {g : JFrame} (hg : g.method = m) (hsize : g.locals.size = c.maxLocals) {argsL rest : List Value} (hlen : ∀ sig, parseMethodDescriptor y.desc = some sig → argsL.length = sig.parameters.length)
    (hstack : g.stack = argsL.reverse ++ .ref b :: rest) (hW : 2 * g.monitorRoom + (rest.map fun v => v.category).sum ≤ W9) (hdg : decode c.code g.pc = .ok (.invokevirtual index, 3))
    (hpre : ∀ vm₁, s.WarmedH vm₁ → Pre ⟨T.setVm vm₁, locs, cells, slots⟩ (Value.ref b :: argsL).toArray) :
    (∃ (v : Option Value) (vm₁ : Vm) (B : Pt), s.WarmedH vm₁ ∧ Stand p l e R s m args below meth c B.U B.locs B.cells B.slots ∧ Post ⟨T.setVm vm₁, locs, cells, slots⟩ (Value.ref b :: argsL).toArray v B ∧
      ∀ target, Steps p.tables e below (B.U.setTop { g with pc := g.pc + 3, stack := v.toList ++ rest }) target → Steps p.tables e below (T.setTop g) target) ∨
    (∃ (q : Addr) (vm₁ : Vm) (B : Pt), s.WarmedH vm₁ ∧ Stand p l e R s m args below meth c B.U B.locs B.cells B.slots ∧ PostX ⟨T.setVm vm₁, locs, cells, slots⟩ (Value.ref b :: argsL).toArray q B ∧
      Steps p.tables e below (T.setTop g) ((B.U.setTop { g with stack := rest }).pushFrame (.throwing q))) := by
  obtain ⟨mk, methM, hnamed, hmethM, hstM, habM⟩ := Cond.instanceMethod_spec hinst
  obtain ⟨m8, methM', cM, hn8, hmethM', -, -, -, -, -, -, hsigM⟩ := Cond.codeWith_spec hcode
  cases Option.some.inj (hn8.symm.trans hnamed)
  cases hmethM.symm.trans hmethM'
  obtain ⟨c2, r2, m2, q1, q2, q3, q4, kP, hkP, hkPi⟩ := Cond.selects_spec hsel
  cases hcls.symm.trans q1
  cases (State.methodFound?_of_named hnamed hy).symm.trans q2
  cases hnamed.symm.trans q3
  have hselP : selectMethod e.platform s.vm cellB.cls mk = .method mk := by rw [Launch.admits_selectMethod X.admits]; exact q4
  obtain ⟨vm₁, X₁, hstep₁⟩ := X.invokevirtual hexec hown hlink hnamed hmethM hstM hkP hkPi hy (a := b) (cell := cellB) hcell
    (fun z h => by rw [h] at hobj; cases hobj) hselP hmethM habM hkP hkPi (g := g) hg (argsL := argsL) (rest := rest) (hlen _ hsigM) hstack hdg
  rcases hK m meth c ⟨T.setVm vm₁, locs, cells, slots⟩ { g with stack := rest } (.invokevirtual index) mk (Value.ref b :: argsL).toArray X₁ hg hsize hdg hW (X₁.named hnamed) (hpre vm₁ X₁.warmed) with ⟨v, B, X', hpost, hsteps⟩ | ⟨q, B, X', hpost, hsteps⟩
  · exact Or.inl ⟨v, vm₁, B, X₁.warmed, X', hpost, fun target h => hstep₁ _ fun acts => by rw [doInvoke_state]; exact hsteps.trans h⟩
  · exact Or.inr ⟨q, vm₁, B, X₁.warmed, X', hpost, hstep₁ _ fun acts => by rw [doInvoke_state]; exact hsteps⟩
theorem vx_callSX (X : Stand p l e R s m args below meth c T locs cells slots) (hexec : p.tables.exec = Jvm.exec) {own : String} {index : Nat} {y : MethodName} {bytes : ByteArray} {maxL : Nat} {ret : Option FieldType} {hh : List (Nat × Nat × Nat × Nat)}
    (hown : s.vm.findClass own = some m.cls) (hlink : (Cond.methodLink own index y).before args s = true) (hstat : (Cond.static y).before args s = true) (hinit : (Cond.initialized y.cls).before args s = true)
    (hcode : (Cond.codeWith y bytes maxL ret hh).before args s = true) (hy : y.cls ≠ "java/lang/invoke/MethodHandle" ∧ y.cls ≠ "java/lang/invoke/VarHandle")
    {W9 : Nat} {Pre : Pt → Array Value → Prop} {Post : Pt → Array Value → Option Value → Pt → Prop} {PostX : Pt → Array Value → Addr → Pt → Prop} (hK : vx_Back l R p e below s args y 3 W9 Pre Post PostX)
    {g : JFrame} (hg : g.method = m) (hsize : g.locals.size = c.maxLocals) {argsL rest : List Value} (hlen : ∀ sig, parseMethodDescriptor y.desc = some sig → argsL.length = sig.parameters.length)
    (hstack : g.stack = argsL.reverse ++ rest) (hW : 2 * g.monitorRoom + (rest.map fun v => v.category).sum ≤ W9) (hdg : decode c.code g.pc = .ok (.invokestatic index, 3))
    (hpre : ∀ vm₁, s.WarmedH vm₁ → Pre ⟨T.setVm vm₁, locs, cells, slots⟩ argsL.toArray) :
    (∃ (v : Option Value) (vm₁ : Vm) (B : Pt), s.WarmedH vm₁ ∧ Stand p l e R s m args below meth c B.U B.locs B.cells B.slots ∧ Post ⟨T.setVm vm₁, locs, cells, slots⟩ argsL.toArray v B ∧
      ∀ target, Steps p.tables e below (B.U.setTop { g with pc := g.pc + 3, stack := v.toList ++ rest }) target → Steps p.tables e below (T.setTop g) target) ∨
    (∃ (q : Addr) (vm₁ : Vm) (B : Pt), s.WarmedH vm₁ ∧ Stand p l e R s m args below meth c B.U B.locs B.cells B.slots ∧ PostX ⟨T.setVm vm₁, locs, cells, slots⟩ argsL.toArray q B ∧
      Steps p.tables e below (T.setTop g) ((B.U.setTop { g with stack := rest }).pushFrame (.throwing q))) := by
  obtain ⟨mk, methM, cM, hnamed, hmethM, -, -, -, -, -, -, hsigM⟩ := Cond.codeWith_spec hcode
  have hstatic : methM.isStatic = true := Cond.static_spec hnamed hmethM hstat
  obtain ⟨kP, hkP, -⟩ := className_of_methodNamed hnamed
  have hinitP : kP.init = .initialized := Cond.initialized_spec (findClass_of_methodNamed hnamed) hkP hinit
  obtain ⟨vm₁, X₁, hstep₁⟩ := X.invokestatic hexec hown hlink hnamed hmethM hstatic hkP hinitP hy (g := g) hg (argsL := argsL) (rest := rest) (hlen _ hsigM) hstack hdg
  rcases hK m meth c ⟨T.setVm vm₁, locs, cells, slots⟩ { g with stack := rest } (.invokestatic index) mk argsL.toArray X₁ hg hsize hdg hW (X₁.named hnamed) (hpre vm₁ X₁.warmed) with ⟨v, B, X', hpost, hsteps⟩ | ⟨q, B, X', hpost, hsteps⟩
  · exact Or.inl ⟨v, vm₁, B, X₁.warmed, X', hpost, fun target h => hstep₁ _ fun acts => by rw [doInvoke_state]; exact hsteps.trans h⟩
  · exact Or.inr ⟨q, vm₁, B, X₁.warmed, X', hpost, hstep₁ _ fun acts => by rw [doInvoke_state]; exact hsteps⟩
theorem vx_callVW (X : Stand p l e R s m args below meth c T locs cells slots) (hexec : p.tables.exec = Jvm.exec) {own C : String} {index : Nat} {y : MethodName} {bytes : ByteArray} {maxL : Nat} {ret : Option FieldType} {hh : List (Nat × Nat × Nat × Nat)}
    (hown : s.vm.findClass own = some m.cls) (hlink : (Cond.methodLink own index y).before args s = true) (hinst : (Cond.instanceMethod y).before args s = true) (hsel : (Cond.selects C y y).before args s = true)
    (hcode : (Cond.codeWith y bytes maxL ret hh).before args s = true) (hy : y.cls ≠ "java/lang/invoke/MethodHandle" ∧ y.cls ≠ "java/lang/invoke/VarHandle")
    {W9 : Nat} {Pre : Pt → Array Value → Prop} {Post : Pt → Array Value → Option Value → Pt → Prop} (hK : Back l R p e below s args y 3 W9 Pre Post)
    {b : Addr} {cellB : Cell} (hcell : T.heap[b]? = some cellB) (hobj : cellB.vm.isStatics = false) (hcls : s.vm.findClass C = some cellB.cls)
    {g : JFrame} (hg : g.method = m) (hsize : g.locals.size = c.maxLocals) {argsL rest : List Value} (hlen : ∀ sig, parseMethodDescriptor y.desc = some sig → argsL.length = sig.parameters.length)
    (hstack : g.stack = argsL.reverse ++ .ref b :: rest) (hW : 2 * g.monitorRoom + (rest.map fun v => v.category).sum ≤ W9) (hdg : decode c.code g.pc = .ok (.invokevirtual index, 3))
    (hpre : ∀ vm₁, s.WarmedH vm₁ → Pre ⟨T.setVm vm₁, locs, cells, slots⟩ (Value.ref b :: argsL).toArray) :
    ∃ (v : Option Value) (vm₁ : Vm) (B : Pt), s.WarmedH vm₁ ∧ Stand p l e R s m args below meth c B.U B.locs B.cells B.slots ∧ Post ⟨T.setVm vm₁, locs, cells, slots⟩ (Value.ref b :: argsL).toArray v B ∧
      ∀ target, Steps p.tables e below (B.U.setTop { g with pc := g.pc + 3, stack := v.toList ++ rest }) target → Steps p.tables e below (T.setTop g) target := by
  obtain ⟨mk, methM, hnamed, hmethM, hstM, habM⟩ := Cond.instanceMethod_spec hinst
  obtain ⟨m8, methM', cM, hn8, hmethM', -, -, -, -, -, -, hsigM⟩ := Cond.codeWith_spec hcode
  cases Option.some.inj (hn8.symm.trans hnamed)
  cases hmethM.symm.trans hmethM'
  obtain ⟨c2, r2, m2, q1, q2, q3, q4, kP, hkP, hkPi⟩ := Cond.selects_spec hsel
  cases hcls.symm.trans q1
  cases (State.methodFound?_of_named hnamed hy).symm.trans q2
  cases hnamed.symm.trans q3
  have hselP : selectMethod e.platform s.vm cellB.cls mk = .method mk := by rw [Launch.admits_selectMethod X.admits]; exact q4
  obtain ⟨vm₁, X₁, hstep₁⟩ := X.invokevirtual hexec hown hlink hnamed hmethM hstM hkP hkPi hy (a := b) (cell := cellB) hcell
    (fun z h => by rw [h] at hobj; cases hobj) hselP hmethM habM hkP hkPi (g := g) hg (argsL := argsL) (rest := rest) (hlen _ hsigM) hstack hdg
  obtain ⟨v, B, X', hpost, hsteps⟩ := hK m meth c ⟨T.setVm vm₁, locs, cells, slots⟩ { g with stack := rest } (.invokevirtual index) mk (Value.ref b :: argsL).toArray X₁ hg hsize hdg hW (X₁.named hnamed) (hpre vm₁ X₁.warmed)
  exact ⟨v, vm₁, B, X₁.warmed, X', hpost, fun target h => hstep₁ _ fun acts => by rw [doInvoke_state]; exact hsteps.trans h⟩
abbrev vx_CVW (R : Room) (s : State) (args : Array Value) (own C : String) (index : Nat) (y : MethodName) (bytes : ByteArray) (maxL : Nat) (ret : Option FieldType) (hh : List (Nat × Nat × Nat × Nat)) (ws : List Cond) (rm : Room) (mc ms n : Nat) : Prop :=
  (rm.cells = mc ∧ rm.slots = ms ∧ rm.frames + 1 ≤ R.frames ∧ 8 + (maxL + 11) + rm.locals ≤ R.locals ∧ (∀ w ∈ ws, ∀ (a' : Array Value) (U : State), s.WarmedH U.vm → w.before a' U = true) ∧ Cond.codeWith y bytes maxL ret hh ∈ ws) ∧
  (Cond.codeWith y bytes maxL ret hh).before args s = true ∧ (Cond.initialized y.cls).before args s = true ∧ (y.cls ≠ "java/lang/invoke/MethodHandle" ∧ y.cls ≠ "java/lang/invoke/VarHandle") ∧
  (∀ sig, parseMethodDescriptor y.desc = some sig → n = sig.parameters.length) ∧ (Cond.methodLink own index y).before args s = true ∧ (Cond.instanceMethod y).before args s = true ∧ (Cond.selects C y y).before args s = true
theorem vx_cwVW {own C : String} {index maxL mc ms : Nat} {y : MethodName} {bytes : ByteArray} {ret : Option FieldType} {hh : List (Nat × Nat × Nat × Nat)} {Ts ws ws' : List Cond} {rm : Room} (n : Nat) (ht : ∀ w ∈ Ts, w.before args s = true) (hT : GoodIn Ts (wsV own index C y ws)) (hw : ws = Cond.codeWith y bytes maxL ret hh :: ws') (hrc : rm.cells = mc) (hrs : rm.slots = ms)
    (hd : y.cls = C ∧ y.cls ≠ "java/lang/invoke/MethodHandle" ∧ y.cls ≠ "java/lang/invoke/VarHandle" ∧ (parseMethodDescriptor y.desc).map (fun d => d.parameters.length) = some n) (hR : rm.frames + 1 ≤ R.frames ∧ 8 + (maxL + 11) + rm.locals ≤ R.locals) :
    vx_CVW R s args own C index y bytes maxL ret hh ws rm mc ms n := by
  obtain ⟨hC, hd⟩ := hd
  subst hC
  have ok : ∀ w ∈ wsV own index y.cls y ws, w.before args s = true := fun w h => ht w (hT w h).1
  have hG : GoodIn Ts ws := fun w h => hT w (by unfold wsV; exact List.mem_append_right _ h)
  have hc : Cond.codeWith y bytes maxL ret hh ∈ ws := by rw [hw]; exact List.mem_cons_self
  refine ⟨⟨hrc, hrs, hR.1, hR.2, pay_in ht hG, hc⟩, ht _ (hG _ hc).1, ok _ (by simp [wsV]), ⟨hd.1, hd.2.1⟩, fun sig h => ?_, ok _ (by simp [wsV]), ok _ (by simp [wsV]), ok _ (by simp [wsV])⟩
  have h2 := hd.2.2
  rw [h] at h2
  exact (Option.some.inj h2).symm
theorem vx_runVW {y : MethodName} {bytes cc : ByteArray} {maxL nL mc ms n index : Nat} {ret : Option FieldType} {hh : List (Nat × Nat × Nat × Nat)} {ws : List Cond} {rm : Room} {Pc : Array Value → State → Prop} {Qc : Array Value → State → Outcome → State → Prop} {free : Addr → Prop} {Ts : List Cond} {own C : String} {b : Addr} {As rest : List Value} {g : JFrame}
    (S : CallFix p m c cc nL s args Ts own) (hM : Met l y ws rm Pc Qc mc ms free) (cw : vx_CVW R s args own C index y bytes maxL ret hh ws rm mc ms n) (hp : PreV s H C b Pc As)
    (hg : g.method = m) (hn : As.length = n) (hsize : g.locals.size = nL) (hstack : g.stack = As.reverse ++ .ref b :: rest) (hW : 2 * g.monitorRoom + (rest.map fun v => v.category).sum ≤ 8) (hdg : decode cc g.pc = .ok (.invokevirtual index, 3)) (hf : cells + mc ≤ R.cells ∧ slots + ms ≤ R.slots) :
    va_Run p l e R s m args below meth c H locs cells slots mc ms g rest (Qc (Value.ref b :: As).toArray) free := by
  obtain ⟨⟨hrc, hrs, hfr, hlo, hws, hcw⟩, hcode, hini, hy, hlen, hl, hin, hse⟩ := cw
  have hK : Back l R p e below s args y 3 8 (PreOf R mc ms Pc) (PostOf Qc mc ms free) := va_backW (hh := hh) (bytes := bytes) (maxL := maxL) (ret := ret) hM hp.1 hrc hrs hfr hlo hws hcw (fun a' U hW => word_at hW (Or.inl (by first | rfl | simp [Cond.onTables, Cond.keeps, Cond.steady])) hini)
  obtain ⟨hx, hb, hml, ho, -⟩ := S
  obtain ⟨-, ⟨cellB, hcB, hoB, hclB⟩, hPc⟩ := hp
  intro T hT X
  obtain ⟨v, vm₁, ⟨U', l2, c2, s2⟩, hW₁, X', ⟨g', mk, t, L, e1, e2, hq, h1, hL, h2, h3⟩, st⟩ := vx_callVW X hx (C := C) (hh := hh) (bytes := bytes) (maxL := maxL) (ret := ret) ho hl hin hse hcode hy hK (by rw [hT]; exact hcB) hoB hclB hg (hsize.trans hml.symm) (argsL := As) (rest := rest) (fun sig h => hn.trans (hlen sig h)) hstack hW (by rw [hb]; exact hdg)
    (fun vm₁ hW₁ => ⟨hf.1, hf.2, hPc (T.setVm vm₁) hT hW₁⟩)
  dsimp only [Pt.U, Pt.locs, Pt.cells, Pt.slots] at X' e1 e2 h1 h2 h3 st
  subst h1; subst h2; subst h3
  exact ⟨v, (T.setVm vm₁).calling g' mk (Value.ref b :: As).toArray, t, U', L, hT, X', hL, e1, e2, hq, st⟩
section
variable {y : MethodName} {bytes cc : ByteArray} {maxL nL mc ms n index : Nat} {ret : Option FieldType} {ws : List Cond} {rm : Room} {Pc : Array Value → State → Prop} {Qc : Array Value → State → Outcome → State → Prop} {XC : String → State → State → Prop} {free : Addr → Prop} {Ts : List Cond} {own C : String} {b : Addr} {As rest : List Value} {g : JFrame}
theorem vx_runVX {hh : List (Nat × Nat × Nat × Nat)} (S : CallFix p m c cc nL s args Ts own) (hM : vx_Met l y ws rm Pc Qc XC mc ms free) (cw : vx_CVW R s args own C index y bytes maxL ret hh ws rm mc ms n) (hp : PreV s H C b Pc As)
    (hg : g.method = m) (hn : As.length = n) (hsize : g.locals.size = nL) (hstack : g.stack = As.reverse ++ .ref b :: rest) (hW : 2 * g.monitorRoom + (rest.map fun v => v.category).sum ≤ 8) (hdg : decode cc g.pc = .ok (.invokevirtual index, 3)) (hf : cells + mc ≤ R.cells ∧ slots + ms ≤ R.slots) :
    vx_Run p l e R s m args below meth c H locs cells slots mc ms g rest (Qc (Value.ref b :: As).toArray) XC free := by
  obtain ⟨⟨hrc, hrs, hfr, hlo, hws, hcw⟩, hcode, hini, hy, hlen, hl, hin, hse⟩ := cw
  have hK : vx_Back l R p e below s args y 3 8 (PreOf R mc ms Pc) (PostOf Qc mc ms free) (vx_Post XC mc ms free) := vx_backW (hh := hh) (bytes := bytes) (maxL := maxL) (ret := ret) hM hp.1 hrc hrs hfr hlo hws hcw (fun a' U hW => word_at hW (Or.inl (by first | rfl | simp [Cond.onTables, Cond.keeps, Cond.steady])) hini)
  obtain ⟨hx, hb, hml, ho, -⟩ := S
  obtain ⟨-, ⟨cellB, hcB, hoB, hclB⟩, hPc⟩ := hp
  intro T hT X
  rcases vx_callVX X hx (C := C) (hh := hh) (bytes := bytes) (maxL := maxL) (ret := ret) ho hl hin hse hcode hy hK (by rw [hT]; exact hcB) hoB hclB hg (hsize.trans hml.symm) (argsL := As) (rest := rest) (fun sig h => hn.trans (hlen sig h)) hstack hW (by rw [hb]; exact hdg)
    (fun vm₁ hW₁ => ⟨hf.1, hf.2, hPc (T.setVm vm₁) hT hW₁⟩) with ⟨v, vm₁, ⟨U', l2, c2, s2⟩, hW₁, X', ⟨g', mk, t, L, e1, e2, hq, h1, hL, h2, h3⟩, st⟩ | ⟨q, vm₁, ⟨U', l2, c2, s2⟩, hW₁, X', ⟨g', mk, t, L, E, ce, e1, e2, hq, hce, hcv, hcl, h1, hL, h2, h3⟩, st⟩
  · dsimp only [Pt.U, Pt.locs, Pt.cells, Pt.slots] at X' e1 e2 h1 h2 h3 st
    subst h1; subst h2; subst h3
    exact Or.inl ⟨v, (T.setVm vm₁).calling g' mk (Value.ref b :: As).toArray, t, U', L, hT, X', hL, e1, e2, hq, st⟩
  · dsimp only [Pt.U, Pt.locs, Pt.cells, Pt.slots] at X' e1 e2 h1 h2 h3 st hcl
    subst h1; subst h2; subst h3
    exact Or.inr ⟨q, (T.setVm vm₁).calling g' mk (Value.ref b :: As).toArray, t, U', L, E, ce, hT, X', hL, e1, e2, hq, hce, hcv, vx_cls hW₁ hcl, st⟩
theorem vx_runSX {hh : List (Nat × Nat × Nat × Nat)} (S : CallFix p m c cc nL s args Ts own) (hM : vx_Met l y ws rm Pc Qc XC mc ms free) (cw : vx_CSW R s args own index y bytes maxL ret hh ws rm mc ms n) (hp : PreS s H Pc As)
    (hg : g.method = m) (hn : As.length = n) (hsize : g.locals.size = nL) (hstack : g.stack = As.reverse ++ rest) (hW : 2 * g.monitorRoom + (rest.map fun v => v.category).sum ≤ 8) (hdg : decode cc g.pc = .ok (.invokestatic index, 3)) (hf : cells + mc ≤ R.cells ∧ slots + ms ≤ R.slots) :
    vx_Run p l e R s m args below meth c H locs cells slots mc ms g rest (Qc As.toArray) XC free := by
  obtain ⟨⟨hrc, hrs, hfr, hlo, hws, hcw⟩, hcode, hini, hy, hlen, hl, hstt⟩ := cw
  have hK : vx_Back l R p e below s args y 3 8 (PreOf R mc ms Pc) (PostOf Qc mc ms free) (vx_Post XC mc ms free) := vx_backW (hh := hh) (bytes := bytes) (maxL := maxL) (ret := ret) hM hp.1 hrc hrs hfr hlo hws hcw (fun a' U hW => word_at hW (Or.inl (by first | rfl | simp [Cond.onTables, Cond.keeps, Cond.steady])) hini)
  obtain ⟨hx, hb, hml, ho, -⟩ := S
  intro T hT X
  rcases vx_callSX X hx (hh := hh) (bytes := bytes) (maxL := maxL) (ret := ret) ho hl hstt hini hcode hy hK hg (hsize.trans hml.symm) (argsL := As) (rest := rest) (fun sig h => hn.trans (hlen sig h)) hstack hW (by rw [hb]; exact hdg)
    (fun vm₁ hW₁ => ⟨hf.1, hf.2, hp.2 (T.setVm vm₁) hT hW₁⟩) with ⟨v, vm₁, ⟨U', l2, c2, s2⟩, hW₁, X', ⟨g', mk, t, L, e1, e2, hq, h1, hL, h2, h3⟩, st⟩ | ⟨q, vm₁, ⟨U', l2, c2, s2⟩, hW₁, X', ⟨g', mk, t, L, E, ce, e1, e2, hq, hce, hcv, hcl, h1, hL, h2, h3⟩, st⟩
  · dsimp only [Pt.U, Pt.locs, Pt.cells, Pt.slots] at X' e1 e2 h1 h2 h3 st
    subst h1; subst h2; subst h3
    exact Or.inl ⟨v, (T.setVm vm₁).calling g' mk As.toArray, t, U', L, hT, X', hL, e1, e2, hq, st⟩
  · dsimp only [Pt.U, Pt.locs, Pt.cells, Pt.slots] at X' e1 e2 h1 h2 h3 st hcl
    subst h1; subst h2; subst h3
    exact Or.inr ⟨q, (T.setVm vm₁).calling g' mk As.toArray, t, U', L, E, ce, hT, X', hL, e1, e2, hq, hce, hcv, vx_cls hW₁ hcl, st⟩
end
end VXH
theorem vx_ofWH {l : Launch} {y : MethodName} {ws ws' : List Cond} {rm : Room} {Pc : Array Value → State → Prop} {Qc : Array Value → State → Outcome → State → Prop} {XC : String → State → State → Prop} {mc ms : Nat} {free : Addr → Prop} {cc : ByteArray} {maxL : Nat} {ret : Option FieldType} {hh : List (Nat × Nat × Nat × Nat)}
    (hy : plainName y.cls = true) (hw : ws = Cond.codeWith y cc maxL ret hh :: ws')
    (body : ∀ p e s m args below meth c s₁, BodyLoose p l y (headSpec ws rm) cc maxL ret e s m args below meth c s₁ → c.maxLocals = maxL → Pc args s →
      W p l e (headSpec ws rm).room s m args below meth c s.heap [] 0 0 (vx_MQ below Qc XC args s mc ms free) (entryFrame m args maxL)) : vx_Met l y ws rm Pc Qc XC mc ms free := by
  refine MetFree.of_bodyS (code := cc) (maxLocals := maxL) (ret := ret) hy ?_ ?_
  · intro args s m h hn
    obtain ⟨m9, meth, c, hn9, h1, h2, h3, h4, -, h5, h6, -⟩ := Cond.codeWith_spec (atoms_spec (ws := ws) h _ (by rw [hw]; exact List.mem_cons_self))
    cases hn.symm.trans hn9
    exact ⟨meth, c, h1, h2, h3, h4, h5, h6⟩
  · intro p e s m args below meth c s₁ B hml hP _
    have hh0 : s₁.heap = s.heap := by rw [B.state]; rfl
    obtain ⟨t, a1, o, b1, b2, b3⟩ := body p e s m args below meth c s₁ B hml hP s₁ hh0 (Stand.of_body B)
    exact ⟨t, o, a1, b1, b2, b3⟩
/-! ===== END ===== -/
end
section
/-! ===== BEGIN printed: names, fields, word lists, decode rows ===== -/
def RX0 : String := "SevenTable$Duel"
def TX0 : u_T := fun k => match k with
  | 0 => ("SevenTable$Duel", "memo", "[I", true)
  | 1 => ("SevenTable$Duel", "inPlay", "[I", true)
  | 2 => ("SevenTable$Duel", "heap", "[I", true)
  | 3 => ("SevenTable$Duel", "heapSize", "I", false)
  | 4 => ("SevenTable$Duel", "kinds", "I", false)
  | 5 => ("SevenTable$Duel", "again", "Z", false)
  | 6 => ("SevenTable$Duel", "refill", "I", false)
  | 7 => ("SevenTable$Duel", "hands", "[I", true)
  | 8 => ("SevenTable$Duel", "drawn", "I", false)
  | 9 => ("SevenTable$Duel", "turn", "I", false)
  | 10 => ("SevenTable$Duel", "vain", "I", false)
  | 11 => ("SevenTable$Duel", "gained", "I", false)
  | _ => ("SevenTable$Duel", "bestFound", "I", false)
def tyX0 : Nat → FieldType := fun k => match k with
  | 0 => .array .int
  | 1 => .array .int
  | 2 => .array .int
  | 3 => .int
  | 4 => .int
  | 5 => .boolean
  | 6 => .int
  | 7 => .array .int
  | 8 => .int
  | 9 => .int
  | 10 => .int
  | 11 => .int
  | _ => .int
abbrev wsX00 : List Cond := u_ws RX0 TX0 13
theorem nmX0 : ∀ a, a < 13 → ∀ b, b < 13 → a ≠ b → (TX0 a).2.1 ≠ (TX0 b).2.1 := by decide +kernel
theorem tyX0_ok : ∀ k, k < 13 → parseFieldDescriptor (TX0 k).2.2.1 = some (tyX0 k) := by decide +kernel
abbrev cX0_init : ByteArray := prog_2_method_1_code
def yX0_init : MethodName := ⟨RX0, "<init>", "()V"⟩
abbrev cX0_difference : ByteArray := prog_2_method_2_code
def yX0_difference : MethodName := ⟨RX0, "difference", "(LSevenTable$Game;)I"⟩
abbrev cX0_bestKind : ByteArray := prog_2_method_3_code
def yX0_bestKind : MethodName := ⟨RX0, "bestKind", "(LSevenTable$Game;)I"⟩
abbrev cX0_take : ByteArray := prog_2_method_4_code
def yX0_take : MethodName := ⟨RX0, "take", "(LSevenTable$Game;)I"⟩
abbrev cX0_pack : ByteArray := prog_2_method_5_code
def yX0_pack : MethodName := ⟨RX0, "pack", "()I"⟩
abbrev cX0_unpack : ByteArray := prog_2_method_6_code
def yX0_unpack : MethodName := ⟨RX0, "unpack", "(I)V"⟩
abbrev cX0_leftInHeap : ByteArray := prog_2_method_7_code
def yX0_leftInHeap : MethodName := ⟨RX0, "leftInHeap", "(I)I"⟩
abbrev cX0_value : ByteArray := prog_2_method_8_code
def yX0_value : MethodName := ⟨RX0, "value", "(II)I"⟩
abbrev cX0_move : ByteArray := prog_2_method_9_code
def yX0_move : MethodName := ⟨RX0, "move", "(II)Z"⟩
abbrev cX0_drawCard : ByteArray := prog_2_method_10_code
def yX0_drawCard : MethodName := ⟨RX0, "drawCard", "(I)V"⟩
abbrev cX0_layDown : ByteArray := prog_2_method_11_code
def yX0_layDown : MethodName := ⟨RX0, "layDown", "(II)V"⟩
abbrev cX0_settle : ByteArray := prog_2_method_12_code
def yX0_settle : MethodName := ⟨RX0, "settle", "(I)Z"⟩
abbrev cX0_cardsOf : ByteArray := prog_2_method_13_code
def yX0_cardsOf : MethodName := ⟨RX0, "cardsOf", "(I)I"⟩
def RX1 : String := "SevenTable$EveningText"
def TX1 : u_T := fun k => match k with
  | 0 => ("SevenTable$EveningText", "reader", "LSevenTable$Reader;", true)
  | 1 => ("SevenTable$EveningText", "rows", "[I", true)
  | _ => ("SevenTable$EveningText", "lines", "I", false)
def tyX1 : Nat → FieldType := fun k => match k with
  | 0 => .object "SevenTable$Reader"
  | 1 => .array .int
  | _ => .int
abbrev wsX10 : List Cond := u_ws RX1 TX1 3
theorem nmX1 : ∀ a, a < 3 → ∀ b, b < 3 → a ≠ b → (TX1 a).2.1 ≠ (TX1 b).2.1 := by decide +kernel
theorem tyX1_ok : ∀ k, k < 3 → parseFieldDescriptor (TX1 k).2.2.1 = some (tyX1 k) := by decide +kernel
abbrev cX1_init : ByteArray := prog_3_method_1_code
def yX1_init : MethodName := ⟨RX1, "<init>", "(LSevenTable$Reader;)V"⟩
abbrev cX1_askerOf : ByteArray := prog_3_method_2_code
def yX1_askerOf : MethodName := ⟨RX1, "askerOf", "(I)I"⟩
abbrev cX1_otherOf : ByteArray := prog_3_method_3_code
def yX1_otherOf : MethodName := ⟨RX1, "otherOf", "(I)I"⟩
abbrev cX1_kindOf : ByteArray := prog_3_method_4_code
def yX1_kindOf : MethodName := ⟨RX1, "kindOf", "(I)I"⟩
abbrev cX1_givenOf : ByteArray := prog_3_method_5_code
def yX1_givenOf : MethodName := ⟨RX1, "givenOf", "(I)I"⟩
abbrev cX1_read : ByteArray := prog_3_method_6_code
def yX1_read : MethodName := ⟨RX1, "read", "([BILSevenTable$Game;)Z"⟩
abbrev cX1_readLine : ByteArray := prog_3_method_7_code
def yX1_readLine : MethodName := ⟨RX1, "readLine", "(LSevenTable$Game;)Z"⟩
abbrev cX1_readAnswer : ByteArray := prog_3_method_8_code
def yX1_readAnswer : MethodName := ⟨RX1, "readAnswer", "()Z"⟩
def RX2 : String := "SevenTable$Game"
def TX2 : u_T := fun k => match k with
  | 0 => ("SevenTable$Game", "kinds", "I", false)
  | 1 => ("SevenTable$Game", "persons", "I", false)
  | 2 => ("SevenTable$Game", "again", "Z", false)
  | 3 => ("SevenTable$Game", "refill", "I", false)
  | 4 => ("SevenTable$Game", "names", "[J", true)
  | 5 => ("SevenTable$Game", "hands", "[I", true)
  | 6 => ("SevenTable$Game", "cards", "[I", true)
  | 7 => ("SevenTable$Game", "heap", "[I", true)
  | 8 => ("SevenTable$Game", "heapFrom", "I", false)
  | 9 => ("SevenTable$Game", "heapTo", "I", false)
  | 10 => ("SevenTable$Game", "owner", "[I", true)
  | 11 => ("SevenTable$Game", "askedTimes", "[I", true)
  | 12 => ("SevenTable$Game", "givenTo", "[I", true)
  | 13 => ("SevenTable$Game", "lastDrawn", "[I", true)
  | 14 => ("SevenTable$Game", "turn", "I", false)
  | 15 => ("SevenTable$Game", "askings", "I", false)
  | 16 => ("SevenTable$Game", "vain", "I", false)
  | _ => ("SevenTable$Game", "seen", "LSevenTable$Knowledge;", true)
def tyX2 : Nat → FieldType := fun k => match k with
  | 0 => .int
  | 1 => .int
  | 2 => .boolean
  | 3 => .int
  | 4 => .array .long
  | 5 => .array .int
  | 6 => .array .int
  | 7 => .array .int
  | 8 => .int
  | 9 => .int
  | 10 => .array .int
  | 11 => .array .int
  | 12 => .array .int
  | 13 => .array .int
  | 14 => .int
  | 15 => .int
  | 16 => .int
  | _ => .object "SevenTable$Knowledge"
abbrev wsX20 : List Cond := u_ws RX2 TX2 18
theorem nmX2 : ∀ a, a < 18 → ∀ b, b < 18 → a ≠ b → (TX2 a).2.1 ≠ (TX2 b).2.1 := by decide +kernel
theorem tyX2_ok : ∀ k, k < 18 → parseFieldDescriptor (TX2 k).2.2.1 = some (tyX2 k) := by decide +kernel
abbrev cX2_init : ByteArray := prog_4_method_1_code
def yX2_init : MethodName := ⟨RX2, "<init>", "()V"⟩
abbrev cX2_copyFrom : ByteArray := prog_4_method_2_code
def yX2_copyFrom : MethodName := ⟨RX2, "copyFrom", "(LSevenTable$Game;)V"⟩
abbrev cX2_clear : ByteArray := prog_4_method_3_code
def yX2_clear : MethodName := ⟨RX2, "clear", "()V"⟩
abbrev cX2_takeCardsAway : ByteArray := prog_4_method_4_code
def yX2_takeCardsAway : MethodName := ⟨RX2, "takeCardsAway", "()V"⟩
abbrev cX2_addPerson : ByteArray := prog_4_method_5_code
def yX2_addPerson : MethodName := ⟨RX2, "addPerson", "(J)V"⟩
abbrev cX2_find : ByteArray := prog_4_method_6_code
def yX2_find : MethodName := ⟨RX2, "find", "(J)I"⟩
abbrev cX2_hasPerson : ByteArray := prog_4_method_7_code
def yX2_hasPerson : MethodName := ⟨RX2, "hasPerson", "(I)Z"⟩
abbrev cX2_hasKind : ByteArray := prog_4_method_8_code
def yX2_hasKind : MethodName := ⟨RX2, "hasKind", "(I)Z"⟩
abbrev cX2_held : ByteArray := prog_4_method_9_code
def yX2_held : MethodName := ⟨RX2, "held", "(II)I"⟩
abbrev cX2_addToHand : ByteArray := prog_4_method_10_code
def yX2_addToHand : MethodName := ⟨RX2, "addToHand", "(III)V"⟩
abbrev cX2_addToHeap : ByteArray := prog_4_method_11_code
def yX2_addToHeap : MethodName := ⟨RX2, "addToHeap", "(I)V"⟩
abbrev cX2_heapSize : ByteArray := prog_4_method_12_code
def yX2_heapSize : MethodName := ⟨RX2, "heapSize", "()I"⟩
abbrev cX2_inHands : ByteArray := prog_4_method_13_code
def yX2_inHands : MethodName := ⟨RX2, "inHands", "(I)I"⟩
abbrev cX2_inHeap : ByteArray := prog_4_method_14_code
def yX2_inHeap : MethodName := ⟨RX2, "inHeap", "(I)I"⟩
abbrev cX2_mostInOneHand : ByteArray := prog_4_method_15_code
def yX2_mostInOneHand : MethodName := ⟨RX2, "mostInOneHand", "(I)I"⟩
abbrev cX2_loose : ByteArray := prog_4_method_16_code
def yX2_loose : MethodName := ⟨RX2, "loose", "()I"⟩
abbrev cX2_kindBits : ByteArray := prog_4_method_17_code
def yX2_kindBits : MethodName := ⟨RX2, "kindBits", "(I)I"⟩
abbrev cX2_booksOf : ByteArray := prog_4_method_18_code
def yX2_booksOf : MethodName := ⟨RX2, "booksOf", "(I)I"⟩
abbrev cX2_allBooks : ByteArray := prog_4_method_19_code
def yX2_allBooks : MethodName := ⟨RX2, "allBooks", "()I"⟩
abbrev cX2_isAheadOfAll : ByteArray := prog_4_method_20_code
def yX2_isAheadOfAll : MethodName := ⟨RX2, "isAheadOfAll", "(I)Z"⟩
abbrev cX2_after : ByteArray := prog_4_method_21_code
def yX2_after : MethodName := ⟨RX2, "after", "(I)I"⟩
abbrev cX2_start : ByteArray := prog_4_method_22_code
def yX2_start : MethodName := ⟨RX2, "start", "()V"⟩
abbrev cX2_canDeal : ByteArray := prog_4_method_23_code
def yX2_canDeal : MethodName := ⟨RX2, "canDeal", "(I)Z"⟩
abbrev cX2_dealOut : ByteArray := prog_4_method_24_code
def yX2_dealOut : MethodName := ⟨RX2, "dealOut", "(II)V"⟩
abbrev cX2_whyNot : ByteArray := prog_4_method_25_code
def yX2_whyNot : MethodName := ⟨RX2, "whyNot", "(III)I"⟩
abbrev cX2_doAsking : ByteArray := prog_4_method_26_code
def yX2_doAsking : MethodName := ⟨RX2, "doAsking", "(IIIZ[I)I"⟩
abbrev cX2_give : ByteArray := prog_4_method_27_code
def yX2_give : MethodName := ⟨RX2, "give", "(III[I)I"⟩
abbrev cX2_sayNo : ByteArray := prog_4_method_28_code
def yX2_sayNo : MethodName := ⟨RX2, "sayNo", "(III[I)I"⟩
abbrev cX2_drawCard : ByteArray := prog_4_method_29_code
def yX2_drawCard : MethodName := ⟨RX2, "drawCard", "(IZ)Z"⟩
abbrev cX2_layDown : ByteArray := prog_4_method_30_code
def yX2_layDown : MethodName := ⟨RX2, "layDown", "(II)Z"⟩
abbrev cX2_settle : ByteArray := prog_4_method_31_code
def yX2_settle : MethodName := ⟨RX2, "settle", "(I)V"⟩
abbrev cX2_takeRefill : ByteArray := prog_4_method_32_code
def yX2_takeRefill : MethodName := ⟨RX2, "takeRefill", "(I)V"⟩
abbrev cX2_choice : ByteArray := prog_4_method_33_code
def yX2_choice : MethodName := ⟨RX2, "choice", "(II)I"⟩
abbrev cX2_leastKind : ByteArray := prog_4_method_34_code
def yX2_leastKind : MethodName := ⟨RX2, "leastKind", "(I)I"⟩
abbrev cX2_nextWithCard : ByteArray := prog_4_method_35_code
def yX2_nextWithCard : MethodName := ⟨RX2, "nextWithCard", "(I)I"⟩
abbrev cX2_firstSure : ByteArray := prog_4_method_36_code
def yX2_firstSure : MethodName := ⟨RX2, "firstSure", "(I)I"⟩
abbrev cX2_mostHeld : ByteArray := prog_4_method_37_code
def yX2_mostHeld : MethodName := ⟨RX2, "mostHeld", "(I)I"⟩
abbrev cX2_richest : ByteArray := prog_4_method_38_code
def yX2_richest : MethodName := ⟨RX2, "richest", "(I)I"⟩
def RX3 : String := "SevenTable$Knowledge"
def TX3 : u_T := fun k => match k with
  | 0 => ("SevenTable$Knowledge", "sure", "[I", true)
  | 1 => ("SevenTable$Knowledge", "others", "[I", true)
  | 2 => ("SevenTable$Knowledge", "size", "I", false)
  | _ => ("SevenTable$Knowledge", "caught", "[I", true)
def tyX3 : Nat → FieldType := fun k => match k with
  | 0 => .array .int
  | 1 => .array .int
  | 2 => .int
  | _ => .array .int
abbrev wsX30 : List Cond := u_ws RX3 TX3 4
theorem nmX3 : ∀ a, a < 4 → ∀ b, b < 4 → a ≠ b → (TX3 a).2.1 ≠ (TX3 b).2.1 := by decide +kernel
theorem tyX3_ok : ∀ k, k < 4 → parseFieldDescriptor (TX3 k).2.2.1 = some (tyX3 k) := by decide +kernel
abbrev cX3_init : ByteArray := prog_5_method_1_code
def yX3_init : MethodName := ⟨RX3, "<init>", "()V"⟩
abbrev cX3_clear : ByteArray := prog_5_method_2_code
def yX3_clear : MethodName := ⟨RX3, "clear", "()V"⟩
abbrev cX3_copyFrom : ByteArray := prog_5_method_3_code
def yX3_copyFrom : MethodName := ⟨RX3, "copyFrom", "(LSevenTable$Knowledge;)V"⟩
abbrev cX3_sureOf : ByteArray := prog_5_method_4_code
def yX3_sureOf : MethodName := ⟨RX3, "sureOf", "(II)I"⟩
abbrev cX3_setSure : ByteArray := prog_5_method_5_code
def yX3_setSure : MethodName := ⟨RX3, "setSure", "(III)V"⟩
abbrev cX3_othersOf : ByteArray := prog_5_method_6_code
def yX3_othersOf : MethodName := ⟨RX3, "othersOf", "(I)I"⟩
abbrev cX3_mayBe : ByteArray := prog_5_method_7_code
def yX3_mayBe : MethodName := ⟨RX3, "mayBe", "(II)I"⟩
abbrev cX3_countOthers : ByteArray := prog_5_method_8_code
def yX3_countOthers : MethodName := ⟨RX3, "countOthers", "()I"⟩
abbrev cX3_ownerAt : ByteArray := prog_5_method_9_code
def yX3_ownerAt : MethodName := ⟨RX3, "ownerAt", "(I)I"⟩
abbrev cX3_barredAt : ByteArray := prog_5_method_10_code
def yX3_barredAt : MethodName := ⟨RX3, "barredAt", "(I)I"⟩
abbrev cX3_addOther : ByteArray := prog_5_method_11_code
def yX3_addOther : MethodName := ⟨RX3, "addOther", "(I)V"⟩
abbrev cX3_reveal : ByteArray := prog_5_method_12_code
def yX3_reveal : MethodName := ⟨RX3, "reveal", "(II)V"⟩
abbrev cX3_barAll : ByteArray := prog_5_method_13_code
def yX3_barAll : MethodName := ⟨RX3, "barAll", "(II)V"⟩
abbrev cX3_denies : ByteArray := prog_5_method_14_code
def yX3_denies : MethodName := ⟨RX3, "denies", "(II)V"⟩
def RX4 : String := "SevenTable$Odds"
def TX4 : u_T := fun k => match k with
  | 0 => ("SevenTable$Odds", "slotOwner", "[I", true)
  | 1 => ("SevenTable$Odds", "slotBarred", "[I", true)
  | 2 => ("SevenTable$Odds", "slots", "I", false)
  | 3 => ("SevenTable$Odds", "kindAt", "[I", true)
  | 4 => ("SevenTable$Odds", "rest", "[I", true)
  | 5 => ("SevenTable$Odds", "unseen", "I", false)
  | 6 => ("SevenTable$Odds", "used", "[I", true)
  | 7 => ("SevenTable$Odds", "step", "[I", true)
  | 8 => ("SevenTable$Odds", "ways", "[J", true)
  | _ => ("SevenTable$Odds", "allWays", "J", false)
def tyX4 : Nat → FieldType := fun k => match k with
  | 0 => .array .int
  | 1 => .array .int
  | 2 => .int
  | 3 => .array .int
  | 4 => .array .int
  | 5 => .int
  | 6 => .array .int
  | 7 => .array .int
  | 8 => .array .long
  | _ => .long
abbrev wsX40 : List Cond := u_ws RX4 TX4 10
theorem nmX4 : ∀ a, a < 10 → ∀ b, b < 10 → a ≠ b → (TX4 a).2.1 ≠ (TX4 b).2.1 := by decide +kernel
theorem tyX4_ok : ∀ k, k < 10 → parseFieldDescriptor (TX4 k).2.2.1 = some (tyX4 k) := by decide +kernel
abbrev cX4_init : ByteArray := prog_6_method_1_code
def yX4_init : MethodName := ⟨RX4, "<init>", "()V"⟩
abbrev cX4_look : ByteArray := prog_6_method_2_code
def yX4_look : MethodName := ⟨RX4, "look", "(LSevenTable$Game;I)Z"⟩
abbrev cX4_takeSlots : ByteArray := prog_6_method_3_code
def yX4_takeSlots : MethodName := ⟨RX4, "takeSlots", "(LSevenTable$Game;I)Z"⟩
abbrev cX4_takeKinds : ByteArray := prog_6_method_4_code
def yX4_takeKinds : MethodName := ⟨RX4, "takeKinds", "(LSevenTable$Game;I)Z"⟩
abbrev cX4_countWays : ByteArray := prog_6_method_5_code
def yX4_countWays : MethodName := ⟨RX4, "countWays", "(II)J"⟩
abbrev cX4_layOut : ByteArray := prog_6_method_6_code
def yX4_layOut : MethodName := ⟨RX4, "layOut", "()I"⟩
abbrev cX4_spread : ByteArray := prog_6_method_7_code
def yX4_spread : MethodName := ⟨RX4, "spread", "(II)V"⟩
abbrev cX4_nextState : ByteArray := prog_6_method_8_code
def yX4_nextState : MethodName := ⟨RX4, "nextState", "()I"⟩
abbrev cX4_indexOfKind : ByteArray := prog_6_method_9_code
def yX4_indexOfKind : MethodName := ⟨RX4, "indexOfKind", "(I)I"⟩
abbrev cX4_waysWithSome : ByteArray := prog_6_method_10_code
def yX4_waysWithSome : MethodName := ⟨RX4, "waysWithSome", "(LSevenTable$Game;II)J"⟩
abbrev cX4_waysDrawn : ByteArray := prog_6_method_11_code
def yX4_waysDrawn : MethodName := ⟨RX4, "waysDrawn", "(I)J"⟩
abbrev cX4_likeliest : ByteArray := prog_6_method_12_code
def yX4_likeliest : MethodName := ⟨RX4, "likeliest", "(LSevenTable$Game;I)I"⟩
def RX5 : String := "SevenTable$Past"
def TX5 : u_T := fun k => match k with
  | 0 => ("SevenTable$Past", "kept", "[LSevenTable$Game;", true)
  | 1 => ("SevenTable$Past", "top", "I", false)
  | _ => ("SevenTable$Past", "size", "I", false)
def tyX5 : Nat → FieldType := fun k => match k with
  | 0 => .array (.object "SevenTable$Game")
  | 1 => .int
  | _ => .int
abbrev wsX50 : List Cond := u_ws RX5 TX5 3
theorem nmX5 : ∀ a, a < 3 → ∀ b, b < 3 → a ≠ b → (TX5 a).2.1 ≠ (TX5 b).2.1 := by decide +kernel
theorem tyX5_ok : ∀ k, k < 3 → parseFieldDescriptor (TX5 k).2.2.1 = some (tyX5 k) := by decide +kernel
abbrev cX5_init : ByteArray := prog_7_method_1_code
def yX5_init : MethodName := ⟨RX5, "<init>", "()V"⟩
abbrev cX5_clear : ByteArray := prog_7_method_2_code
def yX5_clear : MethodName := ⟨RX5, "clear", "()V"⟩
abbrev cX5_keep : ByteArray := prog_7_method_3_code
def yX5_keep : MethodName := ⟨RX5, "keep", "(LSevenTable$Game;)V"⟩
abbrev cX5_takeBack : ByteArray := prog_7_method_4_code
def yX5_takeBack : MethodName := ⟨RX5, "takeBack", "(LSevenTable$Game;)Z"⟩
def RX6 : String := "SevenTable$Reader"
def TX6 : u_T := fun k => match k with
  | 0 => ("SevenTable$Reader", "words", "[J", true)
  | 1 => ("SevenTable$Reader", "text", "[B", false)
  | 2 => ("SevenTable$Reader", "size", "I", false)
  | 3 => ("SevenTable$Reader", "most", "I", false)
  | 4 => ("SevenTable$Reader", "at", "I", false)
  | 5 => ("SevenTable$Reader", "token", "I", false)
  | 6 => ("SevenTable$Reader", "place", "I", false)
  | 7 => ("SevenTable$Reader", "number", "I", false)
  | 8 => ("SevenTable$Reader", "word", "J", false)
  | 9 => ("SevenTable$Reader", "faultKind", "I", false)
  | _ => ("SevenTable$Reader", "faultPlace", "I", false)
def tyX6 : Nat → FieldType := fun k => match k with
  | 0 => .array .long
  | 1 => .array .byte
  | 2 => .int
  | 3 => .int
  | 4 => .int
  | 5 => .int
  | 6 => .int
  | 7 => .int
  | 8 => .long
  | 9 => .int
  | _ => .int
abbrev wsX60 : List Cond := u_ws RX6 TX6 11
theorem nmX6 : ∀ a, a < 11 → ∀ b, b < 11 → a ≠ b → (TX6 a).2.1 ≠ (TX6 b).2.1 := by decide +kernel
theorem tyX6_ok : ∀ k, k < 11 → parseFieldDescriptor (TX6 k).2.2.1 = some (tyX6 k) := by decide +kernel
abbrev cX6_init : ByteArray := prog_8_method_1_code
def yX6_init : MethodName := ⟨RX6, "<init>", "()V"⟩
abbrev cX6_begin : ByteArray := prog_8_method_2_code
def yX6_begin : MethodName := ⟨RX6, "begin", "([BII)V"⟩
abbrev cX6_advance : ByteArray := prog_8_method_3_code
def yX6_advance : MethodName := ⟨RX6, "advance", "()V"⟩
abbrev cX6_takeRun : ByteArray := prog_8_method_4_code
def yX6_takeRun : MethodName := ⟨RX6, "takeRun", "()Z"⟩
abbrev cX6_isAt : ByteArray := prog_8_method_5_code
def yX6_isAt : MethodName := ⟨RX6, "isAt", "(I)Z"⟩
abbrev cX6_fail : ByteArray := prog_8_method_6_code
def yX6_fail : MethodName := ⟨RX6, "fail", "(I)Z"⟩
abbrev cX6_pass : ByteArray := prog_8_method_7_code
def yX6_pass : MethodName := ⟨RX6, "pass", "(I)Z"⟩
abbrev cX6_isNumber : ByteArray := prog_8_method_8_code
def yX6_isNumber : MethodName := ⟨RX6, "isNumber", "(II)Z"⟩
abbrev cX6_isPerson : ByteArray := prog_8_method_9_code
def yX6_isPerson : MethodName := ⟨RX6, "isPerson", "(LSevenTable$Game;)Z"⟩
def RX7 : String := "SevenTable$Sentence"
def TX7 : u_T := fun k => match k with
  | 0 => ("SevenTable$Sentence", "codes", "[I", true)
  | _ => ("SevenTable$Sentence", "size", "I", false)
def tyX7 : Nat → FieldType := fun k => match k with
  | 0 => .array .int
  | _ => .int
abbrev wsX70 : List Cond := u_ws RX7 TX7 2
theorem nmX7 : ∀ a, a < 2 → ∀ b, b < 2 → a ≠ b → (TX7 a).2.1 ≠ (TX7 b).2.1 := by decide +kernel
theorem tyX7_ok : ∀ k, k < 2 → parseFieldDescriptor (TX7 k).2.2.1 = some (tyX7 k) := by decide +kernel
abbrev cX7_init : ByteArray := prog_9_method_1_code
def yX7_init : MethodName := ⟨RX7, "<init>", "()V"⟩
abbrev cX7_clear : ByteArray := prog_9_method_2_code
def yX7_clear : MethodName := ⟨RX7, "clear", "()V"⟩
abbrev cX7_copyFrom : ByteArray := prog_9_method_3_code
def yX7_copyFrom : MethodName := ⟨RX7, "copyFrom", "(LSevenTable$Sentence;)V"⟩
abbrev cX7_add : ByteArray := prog_9_method_4_code
def yX7_add : MethodName := ⟨RX7, "add", "(III)V"⟩
abbrev cX7_holdsFor : ByteArray := prog_9_method_5_code
def yX7_holdsFor : MethodName := ⟨RX7, "holdsFor", "(LSevenTable$Game;I)Z"⟩
abbrev cX7_isSo : ByteArray := prog_9_method_6_code
def yX7_isSo : MethodName := ⟨RX7, "isSo", "(ILSevenTable$Game;I)Z"⟩
abbrev cX7_compares : ByteArray := prog_9_method_7_code
def yX7_compares : MethodName := ⟨RX7, "compares", "(III)Z"⟩
def RX8 : String := "SevenTable$SentenceText"
def TX8 : u_T := fun k => match k with
  | 0 => ("SevenTable$SentenceText", "reader", "LSevenTable$Reader;", true)
  | 1 => ("SevenTable$SentenceText", "made", "LSevenTable$Sentence;", true)
  | _ => ("SevenTable$SentenceText", "ones", "I", false)
def tyX8 : Nat → FieldType := fun k => match k with
  | 0 => .object "SevenTable$Reader"
  | 1 => .object "SevenTable$Sentence"
  | _ => .int
abbrev wsX80 : List Cond := u_ws RX8 TX8 3
theorem nmX8 : ∀ a, a < 3 → ∀ b, b < 3 → a ≠ b → (TX8 a).2.1 ≠ (TX8 b).2.1 := by decide +kernel
theorem tyX8_ok : ∀ k, k < 3 → parseFieldDescriptor (TX8 k).2.2.1 = some (tyX8 k) := by decide +kernel
abbrev cX8_init : ByteArray := prog_10_method_1_code
def yX8_init : MethodName := ⟨RX8, "<init>", "(LSevenTable$Reader;)V"⟩
abbrev cX8_read : ByteArray := prog_10_method_2_code
def yX8_read : MethodName := ⟨RX8, "read", "([BILSevenTable$Game;)Z"⟩
abbrev cX8_readCond : ByteArray := prog_10_method_3_code
def yX8_readCond : MethodName := ⟨RX8, "readCond", "(LSevenTable$Game;I)Z"⟩
abbrev cX8_readAll : ByteArray := prog_10_method_4_code
def yX8_readAll : MethodName := ⟨RX8, "readAll", "(LSevenTable$Game;I)Z"⟩
abbrev cX8_readOne : ByteArray := prog_10_method_5_code
def yX8_readOne : MethodName := ⟨RX8, "readOne", "(LSevenTable$Game;I)Z"⟩
abbrev cX8_beginsOne : ByteArray := prog_10_method_6_code
def yX8_beginsOne : MethodName := ⟨RX8, "beginsOne", "()Z"⟩
abbrev cX8_readPerson : ByteArray := prog_10_method_7_code
def yX8_readPerson : MethodName := ⟨RX8, "readPerson", "(LSevenTable$Game;I)Z"⟩
abbrev cX8_readMeasure : ByteArray := prog_10_method_8_code
def yX8_readMeasure : MethodName := ⟨RX8, "readMeasure", "(I)Z"⟩
def RX9 : String := "SevenTable$TableText"
def TX9 : u_T := fun k => match k with
  | 0 => ("SevenTable$TableText", "reader", "LSevenTable$Reader;", true)
  | 1 => ("SevenTable$TableText", "inPlay", "[I", true)
  | 2 => ("SevenTable$TableText", "refillTold", "Z", false)
  | _ => ("SevenTable$TableText", "lines", "I", false)
def tyX9 : Nat → FieldType := fun k => match k with
  | 0 => .object "SevenTable$Reader"
  | 1 => .array .int
  | 2 => .boolean
  | _ => .int
abbrev wsX90 : List Cond := u_ws RX9 TX9 4
theorem nmX9 : ∀ a, a < 4 → ∀ b, b < 4 → a ≠ b → (TX9 a).2.1 ≠ (TX9 b).2.1 := by decide +kernel
theorem tyX9_ok : ∀ k, k < 4 → parseFieldDescriptor (TX9 k).2.2.1 = some (tyX9 k) := by decide +kernel
abbrev cX9_init : ByteArray := prog_11_method_1_code
def yX9_init : MethodName := ⟨RX9, "<init>", "(LSevenTable$Reader;)V"⟩
abbrev cX9_read : ByteArray := prog_11_method_2_code
def yX9_read : MethodName := ⟨RX9, "read", "([BILSevenTable$Game;)Z"⟩
abbrev cX9_readLine : ByteArray := prog_11_method_3_code
def yX9_readLine : MethodName := ⟨RX9, "readLine", "(LSevenTable$Game;)Z"⟩
abbrev cX9_readKinds : ByteArray := prog_11_method_4_code
def yX9_readKinds : MethodName := ⟨RX9, "readKinds", "(LSevenTable$Game;)Z"⟩
abbrev cX9_readPerson : ByteArray := prog_11_method_5_code
def yX9_readPerson : MethodName := ⟨RX9, "readPerson", "(LSevenTable$Game;)Z"⟩
abbrev cX9_readHand : ByteArray := prog_11_method_6_code
def yX9_readHand : MethodName := ⟨RX9, "readHand", "(LSevenTable$Game;)Z"⟩
abbrev cX9_readHeap : ByteArray := prog_11_method_7_code
def yX9_readHeap : MethodName := ⟨RX9, "readHeap", "(LSevenTable$Game;)Z"⟩
abbrev cX9_readAgain : ByteArray := prog_11_method_8_code
def yX9_readAgain : MethodName := ⟨RX9, "readAgain", "(LSevenTable$Game;)Z"⟩
abbrev cX9_readRefill : ByteArray := prog_11_method_9_code
def yX9_readRefill : MethodName := ⟨RX9, "readRefill", "(LSevenTable$Game;)Z"⟩
def RX10 : String := "SevenTable"
def TX10 : u_T := fun k => match k with
  | 0 => ("SevenTable", "tape", "[B", true)
  | 1 => ("SevenTable", "tapeSize", "I", false)
  | 2 => ("SevenTable", "faultKind", "I", false)
  | 3 => ("SevenTable", "game", "LSevenTable$Game;", true)
  | 4 => ("SevenTable", "trial", "LSevenTable$Game;", true)
  | 5 => ("SevenTable", "told", "LSevenTable$Sentence;", true)
  | 6 => ("SevenTable", "reader", "LSevenTable$Reader;", true)
  | 7 => ("SevenTable", "tableText", "LSevenTable$TableText;", true)
  | 8 => ("SevenTable", "eveningText", "LSevenTable$EveningText;", true)
  | 9 => ("SevenTable", "sentenceText", "LSevenTable$SentenceText;", true)
  | 10 => ("SevenTable", "past", "LSevenTable$Past;", true)
  | 11 => ("SevenTable", "keptGames", "[LSevenTable$Game;", true)
  | 12 => ("SevenTable", "keptSentences", "[LSevenTable$Sentence;", true)
  | 13 => ("SevenTable", "latest", "[I", true)
  | 14 => ("SevenTable", "trialReport", "[I", true)
  | 15 => ("SevenTable", "verdict", "[I", true)
  | 16 => ("SevenTable", "sweepRow", "[I", true)
  | 17 => ("SevenTable", "sweepSize", "I", false)
  | 18 => ("SevenTable", "onlooker", "LSevenTable$Odds;", false)
  | _ => ("SevenTable", "duel", "LSevenTable$Duel;", false)
def tyX10 : Nat → FieldType := fun k => match k with
  | 0 => .array .byte
  | 1 => .int
  | 2 => .int
  | 3 => .object "SevenTable$Game"
  | 4 => .object "SevenTable$Game"
  | 5 => .object "SevenTable$Sentence"
  | 6 => .object "SevenTable$Reader"
  | 7 => .object "SevenTable$TableText"
  | 8 => .object "SevenTable$EveningText"
  | 9 => .object "SevenTable$SentenceText"
  | 10 => .object "SevenTable$Past"
  | 11 => .array (.object "SevenTable$Game")
  | 12 => .array (.object "SevenTable$Sentence")
  | 13 => .array .int
  | 14 => .array .int
  | 15 => .array .int
  | 16 => .array .int
  | 17 => .int
  | 18 => .object "SevenTable$Odds"
  | _ => .object "SevenTable$Duel"
abbrev wsX100 : List Cond := u_ws RX10 TX10 20
theorem nmX10 : ∀ a, a < 20 → ∀ b, b < 20 → a ≠ b → (TX10 a).2.1 ≠ (TX10 b).2.1 := by decide +kernel
theorem tyX10_ok : ∀ k, k < 20 → parseFieldDescriptor (TX10 k).2.2.1 = some (tyX10 k) := by decide +kernel
abbrev cX10_init : ByteArray := prog_1_method_1_code
def yX10_init : MethodName := ⟨RX10, "<init>", "()V"⟩
abbrev cX10_feed : ByteArray := prog_1_method_2_code
def yX10_feed : MethodName := ⟨RX10, "feed", "(IIIII)I"⟩
abbrev cX10_end : ByteArray := prog_1_method_3_code
def yX10_end : MethodName := ⟨RX10, "end", "(I)Z"⟩
abbrev cX10_table : ByteArray := prog_1_method_4_code
def yX10_table : MethodName := ⟨RX10, "table", "()I"⟩
abbrev cX10_fault : ByteArray := prog_1_method_5_code
def yX10_fault : MethodName := ⟨RX10, "fault", "()I"⟩
abbrev cX10_hand : ByteArray := prog_1_method_6_code
def yX10_hand : MethodName := ⟨RX10, "hand", "(II)I"⟩
abbrev cX10_person : ByteArray := prog_1_method_7_code
def yX10_person : MethodName := ⟨RX10, "person", "(II)I"⟩
abbrev cX10_book : ByteArray := prog_1_method_8_code
def yX10_book : MethodName := ⟨RX10, "book", "(I)I"⟩
abbrev cX10_heap : ByteArray := prog_1_method_9_code
def yX10_heap : MethodName := ⟨RX10, "heap", "(I)I"⟩
abbrev cX10_now : ByteArray := prog_1_method_10_code
def yX10_now : MethodName := ⟨RX10, "now", "(I)I"⟩
abbrev cX10_why : ByteArray := prog_1_method_11_code
def yX10_why : MethodName := ⟨RX10, "why", "(III)I"⟩
abbrev cX10_ask : ByteArray := prog_1_method_12_code
def yX10_ask : MethodName := ⟨RX10, "ask", "(IIII)I"⟩
abbrev cX10_asked : ByteArray := prog_1_method_13_code
def yX10_asked : MethodName := ⟨RX10, "asked", "(I)I"⟩
abbrev cX10_undo : ByteArray := prog_1_method_14_code
def yX10_undo : MethodName := ⟨RX10, "undo", "()I"⟩
abbrev cX10_known : ByteArray := prog_1_method_15_code
def yX10_known : MethodName := ⟨RX10, "known", "(II)I"⟩
abbrev cX10_can : ByteArray := prog_1_method_16_code
def yX10_can : MethodName := ⟨RX10, "can", "(II)I"⟩
abbrev cX10_odds : ByteArray := prog_1_method_17_code
def yX10_odds : MethodName := ⟨RX10, "odds", "(IIII)J"⟩
abbrev cX10_next : ByteArray := prog_1_method_18_code
def yX10_next : MethodName := ⟨RX10, "next", "(III)J"⟩
abbrev cX10_whom : ByteArray := prog_1_method_19_code
def yX10_whom : MethodName := ⟨RX10, "whom", "(I)I"⟩
abbrev cX10_sweep : ByteArray := prog_1_method_20_code
def yX10_sweep : MethodName := ⟨RX10, "sweep", "(I)I"⟩
abbrev cX10_swept : ByteArray := prog_1_method_21_code
def yX10_swept : MethodName := ⟨RX10, "swept", "(I)I"⟩
abbrev cX10_gains : ByteArray := prog_1_method_22_code
def yX10_gains : MethodName := ⟨RX10, "gains", "(I)I"⟩
abbrev cX10_open : ByteArray := prog_1_method_23_code
def yX10_open : MethodName := ⟨RX10, "open", "()I"⟩
abbrev cX10_first : ByteArray := prog_1_method_24_code
def yX10_first : MethodName := ⟨RX10, "first", "()I"⟩
abbrev cX10_bent : ByteArray := prog_1_method_25_code
def yX10_bent : MethodName := ⟨RX10, "bent", "(II)I"⟩
abbrev cX10_play : ByteArray := prog_1_method_26_code
def yX10_play : MethodName := ⟨RX10, "play", "(I)I"⟩
abbrev cX10_deal : ByteArray := prog_1_method_27_code
def yX10_deal : MethodName := ⟨RX10, "deal", "(II)Z"⟩
abbrev cX10_games : ByteArray := prog_1_method_28_code
def yX10_games : MethodName := ⟨RX10, "games", "(IIII)I"⟩
abbrev cX10_length : ByteArray := prog_1_method_29_code
def yX10_length : MethodName := ⟨RX10, "length", "(IIII)I"⟩
abbrev cX10_reply : ByteArray := prog_1_method_30_code
def yX10_reply : MethodName := ⟨RX10, "reply", "(III)I"⟩
abbrev cX10_leader : ByteArray := prog_1_method_31_code
def yX10_leader : MethodName := ⟨RX10, "leader", "()I"⟩
abbrev cX10_evening : ByteArray := prog_1_method_32_code
def yX10_evening : MethodName := ⟨RX10, "evening", "(I)I"⟩
abbrev cX10_heard : ByteArray := prog_1_method_33_code
def yX10_heard : MethodName := ⟨RX10, "heard", "(I)I"⟩
abbrev cX10_sentence : ByteArray := prog_1_method_34_code
def yX10_sentence : MethodName := ⟨RX10, "sentence", "()I"⟩
abbrev cX10_said : ByteArray := prog_1_method_35_code
def yX10_said : MethodName := ⟨RX10, "said", "(I)I"⟩
abbrev cX10_image : ByteArray := prog_1_method_36_code
def yX10_image : MethodName := ⟨RX10, "image", "(I)Z"⟩
abbrev cX10_restore : ByteArray := prog_1_method_37_code
def yX10_restore : MethodName := ⟨RX10, "restore", "(I)Z"⟩
abbrev cX10_count : ByteArray := prog_1_method_38_code
def yX10_count : MethodName := ⟨RX10, "count", "(I)I"⟩
abbrev cX10_putFour : ByteArray := prog_1_method_39_code
def yX10_putFour : MethodName := ⟨RX10, "putFour", "(I)V"⟩
abbrev cX10_areSuch : ByteArray := prog_1_method_40_code
def yX10_areSuch : MethodName := ⟨RX10, "areSuch", "(III)Z"⟩
abbrev cX10_isRule : ByteArray := prog_1_method_41_code
def yX10_isRule : MethodName := ⟨RX10, "isRule", "(I)Z"⟩
abbrev cX10_hasRulesOnTape : ByteArray := prog_1_method_42_code
def yX10_hasRulesOnTape : MethodName := ⟨RX10, "hasRulesOnTape", "()Z"⟩
abbrev cX10_sweepKind : ByteArray := prog_1_method_43_code
def yX10_sweepKind : MethodName := ⟨RX10, "sweepKind", "(II)V"⟩
abbrev cX10_isOpen : ByteArray := prog_1_method_44_code
def yX10_isOpen : MethodName := ⟨RX10, "isOpen", "()Z"⟩
abbrev cX10_areGames : ByteArray := prog_1_method_45_code
def yX10_areGames : MethodName := ⟨RX10, "areGames", "(III)Z"⟩
abbrev cX10_playGames : ByteArray := prog_1_method_46_code
def yX10_playGames : MethodName := ⟨RX10, "playGames", "(IIIIZ)I"⟩
abbrev cX10_judge : ByteArray := prog_1_method_47_code
def yX10_judge : MethodName := ⟨RX10, "judge", "()I"⟩
abbrev cX10_takeOnlooker : ByteArray := prog_1_method_48_code
def yX10_takeOnlooker : MethodName := ⟨RX10, "takeOnlooker", "()LSevenTable$Odds;"⟩
abbrev cX10_takeDuel : ByteArray := prog_1_method_49_code
def yX10_takeDuel : MethodName := ⟨RX10, "takeDuel", "()LSevenTable$Duel;"⟩
abbrev cX10_part : ByteArray := prog_1_method_50_code
def yX10_part : MethodName := ⟨RX10, "part", "(JJI)J"⟩
def RX11 : String := "SevenTableModel"
def TX11 : u_T := fun k => match k with
  | 0 => ("SevenTableModel", "thrown", "I", false)
  | 1 => ("SevenTableModel", "tape", "[B", true)
  | 2 => ("SevenTableModel", "length", "I", false)
  | 3 => ("SevenTableModel", "size", "I", false)
  | 4 => ("SevenTableModel", "p", "I", false)
  | 5 => ("SevenTableModel", "limit", "I", false)
  | 6 => ("SevenTableModel", "s", "[I", true)
  | 7 => ("SevenTableModel", "h", "[I", true)
  | 8 => ("SevenTableModel", "read", "[I", true)
  | 9 => ("SevenTableModel", "names", "[J", true)
  | 10 => ("SevenTableModel", "reserved", "[J", true)
  | 11 => ("SevenTableModel", "token", "I", false)
  | 12 => ("SevenTableModel", "at", "I", false)
  | 13 => ("SevenTableModel", "span", "I", false)
  | 14 => ("SevenTableModel", "number", "I", false)
  | 15 => ("SevenTableModel", "fault", "I", false)
  | 16 => ("SevenTableModel", "faultAt", "I", false)
  | 17 => ("SevenTableModel", "word", "J", false)
  | 18 => ("SevenTableModel", "got", "I", false)
  | 19 => ("SevenTableModel", "lines", "I", false)
  | 20 => ("SevenTableModel", "hasKinds", "Z", false)
  | 21 => ("SevenTableModel", "hasAgain", "Z", false)
  | 22 => ("SevenTableModel", "hasRefill", "Z", false)
  | 23 => ("SevenTableModel", "askedAt", "[I", true)
  | 24 => ("SevenTableModel", "hasAsked", "Z", false)
  | 25 => ("SevenTableModel", "undone", "[I", true)
  | 26 => ("SevenTableModel", "before", "[I", true)
  | 27 => ("SevenTableModel", "undoMany", "I", false)
  | 28 => ("SevenTableModel", "left", "[I", true)
  | 29 => ("SevenTableModel", "kindAt", "[I", true)
  | 30 => ("SevenTableModel", "step", "[I", true)
  | 31 => ("SevenTableModel", "ways", "[J", true)
  | 32 => ("SevenTableModel", "waysOn", "[J", true)
  | 33 => ("SevenTableModel", "leftKinds", "I", false)
  | 34 => ("SevenTableModel", "leftCards", "I", false)
  | 35 => ("SevenTableModel", "slots", "I", false)
  | 36 => ("SevenTableModel", "sweepRow", "[I", true)
  | 37 => ("SevenTableModel", "sweepMany", "I", false)
  | 38 => ("SevenTableModel", "values", "[I", true)
  | 39 => ("SevenTableModel", "path", "[I", true)
  | 40 => ("SevenTableModel", "mine", "[I", true)
  | 41 => ("SevenTableModel", "hers", "[I", true)
  | 42 => ("SevenTableModel", "pos", "I", false)
  | 43 => ("SevenTableModel", "vain", "I", false)
  | 44 => ("SevenTableModel", "toCode", "I", false)
  | 45 => ("SevenTableModel", "toGain", "I", false)
  | 46 => ("SevenTableModel", "toSign", "I", false)
  | 47 => ("SevenTableModel", "openFirst", "I", false)
  | 48 => ("SevenTableModel", "rules", "[I", true)
  | 49 => ("SevenTableModel", "seed", "I", false)
  | 50 => ("SevenTableModel", "pack", "[I", true)
  | 51 => ("SevenTableModel", "askedSum", "I", false)
  | 52 => ("SevenTableModel", "told", "I", false)
  | 53 => ("SevenTableModel", "heardAt", "[I", true)
  | 54 => ("SevenTableModel", "hasHeard", "Z", false)
  | 55 => ("SevenTableModel", "stack", "[I", true)
  | 56 => ("SevenTableModel", "codes", "I", false)
  | 57 => ("SevenTableModel", "ones", "I", false)
  | 58 => ("SevenTableModel", "top", "I", false)
  | 59 => ("SevenTableModel", "deep", "I", false)
  | 60 => ("SevenTableModel", "isWhole", "Z", false)
  | 61 => ("SevenTableModel", "truths", "[Z", true)
  | 62 => ("SevenTableModel", "kept", "[I", true)
  | 63 => ("SevenTableModel", "namesKept", "[J", true)
  | _ => ("SevenTableModel", "isKept", "[Z", true)
def tyX11 : Nat → FieldType := fun k => match k with
  | 0 => .int
  | 1 => .array .byte
  | 2 => .int
  | 3 => .int
  | 4 => .int
  | 5 => .int
  | 6 => .array .int
  | 7 => .array .int
  | 8 => .array .int
  | 9 => .array .long
  | 10 => .array .long
  | 11 => .int
  | 12 => .int
  | 13 => .int
  | 14 => .int
  | 15 => .int
  | 16 => .int
  | 17 => .long
  | 18 => .int
  | 19 => .int
  | 20 => .boolean
  | 21 => .boolean
  | 22 => .boolean
  | 23 => .array .int
  | 24 => .boolean
  | 25 => .array .int
  | 26 => .array .int
  | 27 => .int
  | 28 => .array .int
  | 29 => .array .int
  | 30 => .array .int
  | 31 => .array .long
  | 32 => .array .long
  | 33 => .int
  | 34 => .int
  | 35 => .int
  | 36 => .array .int
  | 37 => .int
  | 38 => .array .int
  | 39 => .array .int
  | 40 => .array .int
  | 41 => .array .int
  | 42 => .int
  | 43 => .int
  | 44 => .int
  | 45 => .int
  | 46 => .int
  | 47 => .int
  | 48 => .array .int
  | 49 => .int
  | 50 => .array .int
  | 51 => .int
  | 52 => .int
  | 53 => .array .int
  | 54 => .boolean
  | 55 => .array .int
  | 56 => .int
  | 57 => .int
  | 58 => .int
  | 59 => .int
  | 60 => .boolean
  | 61 => .array .boolean
  | 62 => .array .int
  | 63 => .array .long
  | _ => .array .boolean
abbrev wsX110 : List Cond := u_ws RX11 TX11 65
theorem nmX11 : ∀ a, a < 65 → ∀ b, b < 65 → a ≠ b → (TX11 a).2.1 ≠ (TX11 b).2.1 := by decide +kernel
theorem tyX11_ok : ∀ k, k < 65 → parseFieldDescriptor (TX11 k).2.2.1 = some (tyX11 k) := by decide +kernel
abbrev cX11_thrown : ByteArray := prog_13_method_1_code
def yX11_thrown : MethodName := ⟨RX11, "thrown", "()I"⟩
abbrev cX11_throwsIf : ByteArray := prog_13_method_2_code
def yX11_throwsIf : MethodName := ⟨RX11, "throwsIf", "(Z)Z"⟩
abbrev cX11_feed : ByteArray := prog_13_method_3_code
def yX11_feed : MethodName := ⟨RX11, "feed", "(IIIII)I"⟩
abbrev cX11_four : ByteArray := prog_13_method_4_code
def yX11_four : MethodName := ⟨RX11, "four", "(I)V"⟩
abbrev cX11_end : ByteArray := prog_13_method_5_code
def yX11_end : MethodName := ⟨RX11, "end", "(I)Z"⟩
abbrev cX11_taken : ByteArray := prog_13_method_6_code
def yX11_taken : MethodName := ⟨RX11, "taken", "(I)V"⟩
abbrev cX11_isIn : ByteArray := prog_13_method_7_code
def yX11_isIn : MethodName := ⟨RX11, "isIn", "(III)Z"⟩
abbrev cX11_bitOf : ByteArray := prog_13_method_8_code
def yX11_bitOf : MethodName := ⟨RX11, "bitOf", "(II)Z"⟩
abbrev cX11_octet : ByteArray := prog_13_method_9_code
def yX11_octet : MethodName := ⟨RX11, "octet", "(I)I"⟩
abbrev cX11_init : ByteArray := prog_13_method_10_code
def yX11_init : MethodName := ⟨RX11, "<init>", "()V"⟩
abbrev cX11_peek : ByteArray := prog_13_method_11_code
def yX11_peek : MethodName := ⟨RX11, "peek", "()I"⟩
abbrev cX11_isSmall : ByteArray := prog_13_method_12_code
def yX11_isSmall : MethodName := ⟨RX11, "isSmall", "(I)Z"⟩
abbrev cX11_isDigit : ByteArray := prog_13_method_13_code
def yX11_isDigit : MethodName := ⟨RX11, "isDigit", "(I)Z"⟩
abbrev cX11_next : ByteArray := prog_13_method_14_code
def yX11_next : MethodName := ⟨RX11, "next", "()V"⟩
abbrev cX11_bad : ByteArray := prog_13_method_15_code
def yX11_bad : MethodName := ⟨RX11, "bad", "(I)Z"⟩
abbrev cX11_isWord : ByteArray := prog_13_method_16_code
def yX11_isWord : MethodName := ⟨RX11, "isWord", "(J)Z"⟩
abbrev cX11_isSign : ByteArray := prog_13_method_17_code
def yX11_isSign : MethodName := ⟨RX11, "isSign", "(I)Z"⟩
abbrev cX11_sign : ByteArray := prog_13_method_18_code
def yX11_sign : MethodName := ⟨RX11, "sign", "(I)Z"⟩
abbrev cX11_isName : ByteArray := prog_13_method_19_code
def yX11_isName : MethodName := ⟨RX11, "isName", "()Z"⟩
abbrev cX11_takes : ByteArray := prog_13_method_20_code
def yX11_takes : MethodName := ⟨RX11, "takes", "(II)Z"⟩
abbrev cX11_find : ByteArray := prog_13_method_21_code
def yX11_find : MethodName := ⟨RX11, "find", "(II)I"⟩
abbrev cX11_line : ByteArray := prog_13_method_22_code
def yX11_line : MethodName := ⟨RX11, "line", "()Z"⟩
abbrev cX11_readHand : ByteArray := prog_13_method_23_code
def yX11_readHand : MethodName := ⟨RX11, "readHand", "()Z"⟩
abbrev cX11_readHeap : ByteArray := prog_13_method_24_code
def yX11_readHeap : MethodName := ⟨RX11, "readHeap", "()Z"⟩
abbrev cX11_table : ByteArray := prog_13_method_25_code
def yX11_table : MethodName := ⟨RX11, "table", "()I"⟩
abbrev cX11_fault : ByteArray := prog_13_method_26_code
def yX11_fault : MethodName := ⟨RX11, "fault", "()I"⟩
abbrev cX11_handOf : ByteArray := prog_13_method_27_code
def yX11_handOf : MethodName := ⟨RX11, "handOf", "(III)I"⟩
abbrev cX11_cards : ByteArray := prog_13_method_28_code
def yX11_cards : MethodName := ⟨RX11, "cards", "(I)I"⟩
abbrev cX11_adds : ByteArray := prog_13_method_29_code
def yX11_adds : MethodName := ⟨RX11, "adds", "(II)V"⟩
abbrev cX11_learns : ByteArray := prog_13_method_30_code
def yX11_learns : MethodName := ⟨RX11, "learns", "(II)V"⟩
abbrev cX11_cannot : ByteArray := prog_13_method_31_code
def yX11_cannot : MethodName := ⟨RX11, "cannot", "(II)V"⟩
abbrev cX11_books : ByteArray := prog_13_method_32_code
def yX11_books : MethodName := ⟨RX11, "books", "(II)Z"⟩
abbrev cX11_draws : ByteArray := prog_13_method_33_code
def yX11_draws : MethodName := ⟨RX11, "draws", "(I)I"⟩
abbrev cX11_refills : ByteArray := prog_13_method_34_code
def yX11_refills : MethodName := ⟨RX11, "refills", "(I)V"⟩
abbrev cX11_settles : ByteArray := prog_13_method_35_code
def yX11_settles : MethodName := ⟨RX11, "settles", "(I)V"⟩
abbrev cX11_begins : ByteArray := prog_13_method_36_code
def yX11_begins : MethodName := ⟨RX11, "begins", "()V"⟩
abbrev cX11_isPerson : ByteArray := prog_13_method_37_code
def yX11_isPerson : MethodName := ⟨RX11, "isPerson", "(I)Z"⟩
abbrev cX11_isKind : ByteArray := prog_13_method_38_code
def yX11_isKind : MethodName := ⟨RX11, "isKind", "(I)Z"⟩
abbrev cX11_hand : ByteArray := prog_13_method_39_code
def yX11_hand : MethodName := ⟨RX11, "hand", "(II)I"⟩
abbrev cX11_booksOf : ByteArray := prog_13_method_40_code
def yX11_booksOf : MethodName := ⟨RX11, "booksOf", "(I)I"⟩
abbrev cX11_allBooks : ByteArray := prog_13_method_41_code
def yX11_allBooks : MethodName := ⟨RX11, "allBooks", "()I"⟩
abbrev cX11_person : ByteArray := prog_13_method_42_code
def yX11_person : MethodName := ⟨RX11, "person", "(II)I"⟩
abbrev cX11_book : ByteArray := prog_13_method_43_code
def yX11_book : MethodName := ⟨RX11, "book", "(I)I"⟩
abbrev cX11_heap : ByteArray := prog_13_method_44_code
def yX11_heap : MethodName := ⟨RX11, "heap", "(I)I"⟩
abbrev cX11_now : ByteArray := prog_13_method_45_code
def yX11_now : MethodName := ⟨RX11, "now", "(I)I"⟩
abbrev cX11_whyOf : ByteArray := prog_13_method_46_code
def yX11_whyOf : MethodName := ⟨RX11, "whyOf", "(III)I"⟩
abbrev cX11_areAsked : ByteArray := prog_13_method_47_code
def yX11_areAsked : MethodName := ⟨RX11, "areAsked", "(III)Z"⟩
abbrev cX11_why : ByteArray := prog_13_method_48_code
def yX11_why : MethodName := ⟨RX11, "why", "(III)I"⟩
abbrev cX11_sureOf : ByteArray := prog_13_method_49_code
def yX11_sureOf : MethodName := ⟨RX11, "sureOf", "(II)I"⟩
abbrev cX11_asks : ByteArray := prog_13_method_50_code
def yX11_asks : MethodName := ⟨RX11, "asks", "(IIIIZ)I"⟩
abbrev cX11_ask : ByteArray := prog_13_method_51_code
def yX11_ask : MethodName := ⟨RX11, "ask", "(IIII)I"⟩
abbrev cX11_asked : ByteArray := prog_13_method_52_code
def yX11_asked : MethodName := ⟨RX11, "asked", "(I)I"⟩
abbrev cX11_keep : ByteArray := prog_13_method_53_code
def yX11_keep : MethodName := ⟨RX11, "keep", "()V"⟩
abbrev cX11_undo : ByteArray := prog_13_method_54_code
def yX11_undo : MethodName := ⟨RX11, "undo", "()I"⟩
abbrev cX11_tries : ByteArray := prog_13_method_55_code
def yX11_tries : MethodName := ⟨RX11, "tries", "()V"⟩
abbrev cX11_back : ByteArray := prog_13_method_56_code
def yX11_back : MethodName := ⟨RX11, "back", "()V"⟩
abbrev cX11_known : ByteArray := prog_13_method_57_code
def yX11_known : MethodName := ⟨RX11, "known", "(II)I"⟩
abbrev cX11_can : ByteArray := prog_13_method_58_code
def yX11_can : MethodName := ⟨RX11, "can", "(II)I"⟩
abbrev cX11_looks : ByteArray := prog_13_method_59_code
def yX11_looks : MethodName := ⟨RX11, "looks", "(I)Z"⟩
abbrev cX11_digit : ByteArray := prog_13_method_60_code
def yX11_digit : MethodName := ⟨RX11, "digit", "(II)I"⟩
abbrev cX11_waysOf : ByteArray := prog_13_method_61_code
def yX11_waysOf : MethodName := ⟨RX11, "waysOf", "(III)J"⟩
abbrev cX11_common : ByteArray := prog_13_method_62_code
def yX11_common : MethodName := ⟨RX11, "common", "(JJ)J"⟩
abbrev cX11_part : ByteArray := prog_13_method_63_code
def yX11_part : MethodName := ⟨RX11, "part", "(JJI)J"⟩
abbrev cX11_odds : ByteArray := prog_13_method_64_code
def yX11_odds : MethodName := ⟨RX11, "odds", "(IIII)J"⟩
abbrev cX11_next_ : ByteArray := prog_13_method_65_code
def yX11_next_ : MethodName := ⟨RX11, "next", "(III)J"⟩
abbrev cX11_whom : ByteArray := prog_13_method_66_code
def yX11_whom : MethodName := ⟨RX11, "whom", "(I)I"⟩
abbrev cX11_sweep : ByteArray := prog_13_method_67_code
def yX11_sweep : MethodName := ⟨RX11, "sweep", "(I)I"⟩
abbrev cX11_swept : ByteArray := prog_13_method_68_code
def yX11_swept : MethodName := ⟨RX11, "swept", "(I)I"⟩
abbrev cX11_inHands : ByteArray := prog_13_method_69_code
def yX11_inHands : MethodName := ⟨RX11, "inHands", "(I)I"⟩
abbrev cX11_gains : ByteArray := prog_13_method_70_code
def yX11_gains : MethodName := ⟨RX11, "gains", "(I)I"⟩
abbrev cX11_codeOf : ByteArray := prog_13_method_71_code
def yX11_codeOf : MethodName := ⟨RX11, "codeOf", "(Z)I"⟩
abbrev cX11_decode : ByteArray := prog_13_method_72_code
def yX11_decode : MethodName := ⟨RX11, "decode", "(I)V"⟩
abbrev cX11_sumOf : ByteArray := prog_13_method_73_code
def yX11_sumOf : MethodName := ⟨RX11, "sumOf", "([I)I"⟩
abbrev cX11_laid : ByteArray := prog_13_method_74_code
def yX11_laid : MethodName := ⟨RX11, "laid", "([II)I"⟩
abbrev cX11_filled : ByteArray := prog_13_method_75_code
def yX11_filled : MethodName := ⟨RX11, "filled", "([I)I"⟩
abbrev cX11_goes : ByteArray := prog_13_method_76_code
def yX11_goes : MethodName := ⟨RX11, "goes", "(II)V"⟩
abbrev cX11_lacks : ByteArray := prog_13_method_77_code
def yX11_lacks : MethodName := ⟨RX11, "lacks", "(I)I"⟩
abbrev cX11_openOf : ByteArray := prog_13_method_78_code
def yX11_openOf : MethodName := ⟨RX11, "openOf", "()I"⟩
abbrev cX11_open : ByteArray := prog_13_method_79_code
def yX11_open : MethodName := ⟨RX11, "open", "()I"⟩
abbrev cX11_first : ByteArray := prog_13_method_80_code
def yX11_first : MethodName := ⟨RX11, "first", "()I"⟩
abbrev cX11_nextWithCards : ByteArray := prog_13_method_81_code
def yX11_nextWithCards : MethodName := ⟨RX11, "nextWithCards", "(I)I"⟩
abbrev cX11_bentOf : ByteArray := prog_13_method_82_code
def yX11_bentOf : MethodName := ⟨RX11, "bentOf", "(II)I"⟩
abbrev cX11_bent : ByteArray := prog_13_method_83_code
def yX11_bent : MethodName := ⟨RX11, "bent", "(II)I"⟩
abbrev cX11_plays : ByteArray := prog_13_method_84_code
def yX11_plays : MethodName := ⟨RX11, "plays", "(IZ)I"⟩
abbrev cX11_play : ByteArray := prog_13_method_85_code
def yX11_play : MethodName := ⟨RX11, "play", "(I)I"⟩
abbrev cX11_draw : ByteArray := prog_13_method_86_code
def yX11_draw : MethodName := ⟨RX11, "draw", "(I)I"⟩
abbrev cX11_deals : ByteArray := prog_13_method_87_code
def yX11_deals : MethodName := ⟨RX11, "deals", "(II)V"⟩
abbrev cX11_deal : ByteArray := prog_13_method_88_code
def yX11_deal : MethodName := ⟨RX11, "deal", "(II)Z"⟩
abbrev cX11_gamesOf : ByteArray := prog_13_method_89_code
def yX11_gamesOf : MethodName := ⟨RX11, "gamesOf", "(IIII)I"⟩
abbrev cX11_areGames : ByteArray := prog_13_method_90_code
def yX11_areGames : MethodName := ⟨RX11, "areGames", "(III)Z"⟩
abbrev cX11_games : ByteArray := prog_13_method_91_code
def yX11_games : MethodName := ⟨RX11, "games", "(IIII)I"⟩
abbrev cX11_length : ByteArray := prog_13_method_92_code
def yX11_length : MethodName := ⟨RX11, "length", "(IIII)I"⟩
abbrev cX11_reply : ByteArray := prog_13_method_93_code
def yX11_reply : MethodName := ⟨RX11, "reply", "(III)I"⟩
abbrev cX11_leader : ByteArray := prog_13_method_94_code
def yX11_leader : MethodName := ⟨RX11, "leader", "()I"⟩
abbrev cX11_eveningLine : ByteArray := prog_13_method_95_code
def yX11_eveningLine : MethodName := ⟨RX11, "eveningLine", "()Z"⟩
abbrev cX11_evening : ByteArray := prog_13_method_96_code
def yX11_evening : MethodName := ⟨RX11, "evening", "(I)I"⟩
abbrev cX11_heard : ByteArray := prog_13_method_97_code
def yX11_heard : MethodName := ⟨RX11, "heard", "(I)I"⟩
abbrev cX11_code : ByteArray := prog_13_method_98_code
def yX11_code : MethodName := ⟨RX11, "code", "(III)V"⟩
abbrev cX11_joins : ByteArray := prog_13_method_99_code
def yX11_joins : MethodName := ⟨RX11, "joins", "(I)V"⟩
abbrev cX11_nots : ByteArray := prog_13_method_100_code
def yX11_nots : MethodName := ⟨RX11, "nots", "()V"⟩
abbrev cX11_leafOf : ByteArray := prog_13_method_101_code
def yX11_leafOf : MethodName := ⟨RX11, "leafOf", "()I"⟩
abbrev cX11_operand : ByteArray := prog_13_method_102_code
def yX11_operand : MethodName := ⟨RX11, "operand", "()Z"⟩
abbrev cX11_behind : ByteArray := prog_13_method_103_code
def yX11_behind : MethodName := ⟨RX11, "behind", "()Z"⟩
abbrev cX11_sentence : ByteArray := prog_13_method_104_code
def yX11_sentence : MethodName := ⟨RX11, "sentence", "()I"⟩
abbrev cX11_isLeaf : ByteArray := prog_13_method_105_code
def yX11_isLeaf : MethodName := ⟨RX11, "isLeaf", "(IIII)Z"⟩
abbrev cX11_isSaid : ByteArray := prog_13_method_106_code
def yX11_isSaid : MethodName := ⟨RX11, "isSaid", "(I)Z"⟩
abbrev cX11_said : ByteArray := prog_13_method_107_code
def yX11_said : MethodName := ⟨RX11, "said", "(I)I"⟩
abbrev cX11_image : ByteArray := prog_13_method_108_code
def yX11_image : MethodName := ⟨RX11, "image", "(I)Z"⟩
abbrev cX11_restore : ByteArray := prog_13_method_109_code
def yX11_restore : MethodName := ⟨RX11, "restore", "(I)Z"⟩
abbrev cX11_count : ByteArray := prog_13_method_110_code
def yX11_count : MethodName := ⟨RX11, "count", "(I)I"⟩
def RJx145de : String := "java/io/Serializable"
def TJx145de : u_T := fun k => match k with
  | _ => ("", "", "", false)
def tyJx145de : Nat → FieldType := fun k => match k with
  | _ => .int
abbrev wsJx145de0 : List Cond := u_ws RJx145de TJx145de 0
theorem nmJx145de : ∀ a, a < 0 → ∀ b, b < 0 → a ≠ b → (TJx145de a).2.1 ≠ (TJx145de b).2.1 := by decide +kernel
theorem tyJx145de_ok : ∀ k, k < 0 → parseFieldDescriptor (TJx145de k).2.2.1 = some (tyJx145de k) := by decide +kernel
def RJx9f9b0 : String := "java/lang/CharSequence"
def TJx9f9b0 : u_T := fun k => match k with
  | _ => ("", "", "", false)
def tyJx9f9b0 : Nat → FieldType := fun k => match k with
  | _ => .int
abbrev wsJx9f9b00 : List Cond := u_ws RJx9f9b0 TJx9f9b0 0
theorem nmJx9f9b0 : ∀ a, a < 0 → ∀ b, b < 0 → a ≠ b → (TJx9f9b0 a).2.1 ≠ (TJx9f9b0 b).2.1 := by decide +kernel
theorem tyJx9f9b0_ok : ∀ k, k < 0 → parseFieldDescriptor (TJx9f9b0 k).2.2.1 = some (tyJx9f9b0 k) := by decide +kernel
def RJxb160c : String := "java/lang/Comparable"
def TJxb160c : u_T := fun k => match k with
  | _ => ("", "", "", false)
def tyJxb160c : Nat → FieldType := fun k => match k with
  | _ => .int
abbrev wsJxb160c0 : List Cond := u_ws RJxb160c TJxb160c 0
theorem nmJxb160c : ∀ a, a < 0 → ∀ b, b < 0 → a ≠ b → (TJxb160c a).2.1 ≠ (TJxb160c b).2.1 := by decide +kernel
theorem tyJxb160c_ok : ∀ k, k < 0 → parseFieldDescriptor (TJxb160c k).2.2.1 = some (tyJxb160c k) := by decide +kernel
def RJ9 : String := "java/lang/Math"
def TJ9 : u_T := fun k => match k with
  | _ => ("", "", "", false)
def tyJ9 : Nat → FieldType := fun k => match k with
  | _ => .int
abbrev wsJ90 : List Cond := u_ws RJ9 TJ9 0
theorem nmJ9 : ∀ a, a < 0 → ∀ b, b < 0 → a ≠ b → (TJ9 a).2.1 ≠ (TJ9 b).2.1 := by decide +kernel
theorem tyJ9_ok : ∀ k, k < 0 → parseFieldDescriptor (TJ9 k).2.2.1 = some (tyJ9 k) := by decide +kernel
abbrev cJ9_max_7cf53 : ByteArray := prog_18_method_65_code
def yJ9_max_7cf53 : MethodName := ⟨RJ9, "max", "(II)I"⟩
abbrev cJ9_min_7cf53 : ByteArray := prog_18_method_69_code
def yJ9_min_7cf53 : MethodName := ⟨RJ9, "min", "(II)I"⟩
def RJ0 : String := "java/lang/String"
def TJ0 : u_T := fun k => match k with
  | _ => ("", "", "", false)
def tyJ0 : Nat → FieldType := fun k => match k with
  | _ => .int
abbrev wsJ00 : List Cond := u_ws RJ0 TJ0 0
theorem nmJ0 : ∀ a, a < 0 → ∀ b, b < 0 → a ≠ b → (TJ0 a).2.1 ≠ (TJ0 b).2.1 := by decide +kernel
theorem tyJ0_ok : ∀ k, k < 0 → parseFieldDescriptor (TJ0 k).2.2.1 = some (tyJ0 k) := by decide +kernel
abbrev cJ0_length_8abf5 : ByteArray := prog_20_method_54_code
def yJ0_length_8abf5 : MethodName := ⟨RJ0, "length", "()I"⟩
abbrev cJ0_charAt_5068e : ByteArray := prog_20_method_56_code
def yJ0_charAt_5068e : MethodName := ⟨RJ0, "charAt", "(I)C"⟩
abbrev cJ0_coder_7d493 : ByteArray := prog_20_method_152_code
def yJ0_coder_7d493 : MethodName := ⟨RJ0, "coder", "()B"⟩
abbrev cJ0_isLatin1_aae02 : ByteArray := prog_20_method_154_code
def yJ0_isLatin1_aae02 : MethodName := ⟨RJ0, "isLatin1", "()Z"⟩
abbrev cJ0_checkIndex_df160 : ByteArray := prog_20_method_155_code
def yJ0_checkIndex_df160 : MethodName := ⟨RJ0, "checkIndex", "(II)V"⟩
def RJ1 : String := "java/lang/StringLatin1"
def TJ1 : u_T := fun k => match k with
  | _ => ("", "", "", false)
def tyJ1 : Nat → FieldType := fun k => match k with
  | _ => .int
abbrev wsJ10 : List Cond := u_ws RJ1 TJ1 0
theorem nmJ1 : ∀ a, a < 0 → ∀ b, b < 0 → a ≠ b → (TJ1 a).2.1 ≠ (TJ1 b).2.1 := by decide +kernel
theorem tyJ1_ok : ∀ k, k < 0 → parseFieldDescriptor (TJ1 k).2.2.1 = some (tyJ1 k) := by decide +kernel
abbrev cJ1_charAt_3b067 : ByteArray := prog_21_method_2_code
def yJ1_charAt_3b067 : MethodName := ⟨RJ1, "charAt", "([BI)C"⟩
def RJ2 : String := "java/lang/StringUTF16"
def TJ2 : u_T := fun k => match k with
  | _ => ("", "", "", false)
def tyJ2 : Nat → FieldType := fun k => match k with
  | _ => .int
abbrev wsJ20 : List Cond := u_ws RJ2 TJ2 0
theorem nmJ2 : ∀ a, a < 0 → ∀ b, b < 0 → a ≠ b → (TJ2 a).2.1 ≠ (TJ2 b).2.1 := by decide +kernel
theorem tyJ2_ok : ∀ k, k < 0 → parseFieldDescriptor (TJ2 k).2.2.1 = some (tyJ2 k) := by decide +kernel
abbrev cJ2_getChar_3b067 : ByteArray := prog_22_method_5_code
def yJ2_getChar_3b067 : MethodName := ⟨RJ2, "getChar", "([BI)C"⟩
abbrev cJ2_length_9d52b : ByteArray := prog_22_method_6_code
def yJ2_length_9d52b : MethodName := ⟨RJ2, "length", "([B)I"⟩
abbrev cJ2_charAt_3b067 : ByteArray := prog_22_method_83_code
def yJ2_charAt_3b067 : MethodName := ⟨RJ2, "charAt", "([BI)C"⟩
abbrev cJ2_checkIndex_2214a : ByteArray := prog_22_method_91_code
def yJ2_checkIndex_2214a : MethodName := ⟨RJ2, "checkIndex", "(I[B)V"⟩
def RJ10 : String := "java/lang/System"
def TJ10 : u_T := fun k => match k with
  | _ => ("", "", "", false)
def tyJ10 : Nat → FieldType := fun k => match k with
  | _ => .int
abbrev wsJ100 : List Cond := u_ws RJ10 TJ10 0
theorem nmJ10 : ∀ a, a < 0 → ∀ b, b < 0 → a ≠ b → (TJ10 a).2.1 ≠ (TJ10 b).2.1 := by decide +kernel
theorem tyJ10_ok : ∀ k, k < 0 → parseFieldDescriptor (TJ10 k).2.2.1 = some (tyJ10 k) := by decide +kernel
def RJxfd54e : String := "java/lang/constant/Constable"
def TJxfd54e : u_T := fun k => match k with
  | _ => ("", "", "", false)
def tyJxfd54e : Nat → FieldType := fun k => match k with
  | _ => .int
abbrev wsJxfd54e0 : List Cond := u_ws RJxfd54e TJxfd54e 0
theorem nmJxfd54e : ∀ a, a < 0 → ∀ b, b < 0 → a ≠ b → (TJxfd54e a).2.1 ≠ (TJxfd54e b).2.1 := by decide +kernel
theorem tyJxfd54e_ok : ∀ k, k < 0 → parseFieldDescriptor (TJxfd54e k).2.2.1 = some (tyJxfd54e k) := by decide +kernel
def RJx3cf43 : String := "java/lang/constant/ConstantDesc"
def TJx3cf43 : u_T := fun k => match k with
  | _ => ("", "", "", false)
def tyJx3cf43 : Nat → FieldType := fun k => match k with
  | _ => .int
abbrev wsJx3cf430 : List Cond := u_ws RJx3cf43 TJx3cf43 0
theorem nmJx3cf43 : ∀ a, a < 0 → ∀ b, b < 0 → a ≠ b → (TJx3cf43 a).2.1 ≠ (TJx3cf43 b).2.1 := by decide +kernel
theorem tyJx3cf43_ok : ∀ k, k < 0 → parseFieldDescriptor (TJx3cf43 k).2.2.1 = some (tyJx3cf43 k) := by decide +kernel
def RJ7 : String := "java/util/Arrays"
def TJ7 : u_T := fun k => match k with
  | _ => ("", "", "", false)
def tyJ7 : Nat → FieldType := fun k => match k with
  | _ => .int
abbrev wsJ70 : List Cond := u_ws RJ7 TJ7 0
theorem nmJ7 : ∀ a, a < 0 → ∀ b, b < 0 → a ≠ b → (TJ7 a).2.1 ≠ (TJ7 b).2.1 := by decide +kernel
theorem tyJ7_ok : ∀ k, k < 0 → parseFieldDescriptor (TJ7 k).2.2.1 = some (tyJ7 k) := by decide +kernel
abbrev cJ7_rangeCheck_23922 : ByteArray := prog_27_method_30_code
def yJ7_rangeCheck_23922 : MethodName := ⟨RJ7, "rangeCheck", "(III)V"⟩
abbrev cJ7_fill_bad5a : ByteArray := prog_27_method_102_code
def yJ7_fill_bad5a : MethodName := ⟨RJ7, "fill", "([JIIJ)V"⟩
abbrev cJ7_fill_53178 : ByteArray := prog_27_method_103_code
def yJ7_fill_53178 : MethodName := ⟨RJ7, "fill", "([II)V"⟩
def RJ3 : String := "jdk/internal/util/Preconditions"
def TJ3 : u_T := fun k => match k with
  | _ => ("", "", "", false)
def tyJ3 : Nat → FieldType := fun k => match k with
  | _ => .int
abbrev wsJ30 : List Cond := u_ws RJ3 TJ3 0
theorem nmJ3 : ∀ a, a < 0 → ∀ b, b < 0 → a ≠ b → (TJ3 a).2.1 ≠ (TJ3 b).2.1 := by decide +kernel
theorem tyJ3_ok : ∀ k, k < 0 → parseFieldDescriptor (TJ3 k).2.2.1 = some (tyJ3 k) := by decide +kernel
abbrev cJ3_checkIndex_8e157 : ByteArray := prog_29_method_11_code
def yJ3_checkIndex_8e157 : MethodName := ⟨RJ3, "checkIndex", "(IILjava/util/function/BiFunction;)I"⟩
def RL : String := "SevenTableLaw"
abbrev cL_hand : ByteArray := method_3_code
def yL_hand : MethodName := ⟨RL, "hand", "(LSevenTable;II[J)I"⟩
abbrev cL_odds : ByteArray := method_4_code
def yL_odds : MethodName := ⟨RL, "odds", "(LSevenTable;IIII[J)I"⟩
abbrev cL_next : ByteArray := method_5_code
def yL_next : MethodName := ⟨RL, "next", "(LSevenTable;III[J)I"⟩
abbrev cL_law : ByteArray := code
def yL_law : MethodName := ⟨RL, "law", "([I)Z"⟩
abbrev vwCl : List vw_C := [(RX0, TX0, 13), (RX1, TX1, 3), (RX2, TX2, 18), (RX3, TX3, 4), (RX4, TX4, 10), (RX5, TX5, 3), (RX6, TX6, 11), (RX7, TX7, 2), (RX8, TX8, 3), (RX9, TX9, 4), (RX10, TX10, 20), (RX11, TX11, 65)]
end
section
/-! What all contracts stand on: ONE list of words (gw: the good ones of the tables), one list of array classes (px_tys), rows for making arrays of these classes, for calls, for numbers. -/
def gw : List Cond := lw_tbl.filter goodWord
theorem gw_of {w : Cond} (h : w ∈ tables_1) (hg : goodWord w = true) : w ∈ gw := List.mem_filter.mpr ⟨List.mem_append_right _ h, hg⟩
theorem gw_1 {w : Cond} (i : Nat) (h : tables_1_1[i]? = some w) (hg : goodWord w = true) : w ∈ gw := gw_of (List.mem_append_left _ (List.mem_of_getElem? h)) hg
theorem gw_2 {w : Cond} (i : Nat) (h : tables_1_2[i]? = some w) (hg : goodWord w = true) : w ∈ gw := gw_of (List.mem_append_right _ (List.mem_append_left _ (List.mem_of_getElem? h))) hg
theorem gw_3 {w : Cond} (i : Nat) (h : tables_1_3[i]? = some w) (hg : goodWord w = true) : w ∈ gw := gw_of (List.mem_append_right _ (List.mem_append_right _ (List.mem_append_left _ (List.mem_of_getElem? h)))) hg
theorem gw_4 {w : Cond} (i : Nat) (h : tables_1_4[i]? = some w) (hg : goodWord w = true) : w ∈ gw := gw_of (List.mem_append_right _ (List.mem_append_right _ (List.mem_append_right _ (List.mem_append_left _ (List.mem_of_getElem? h))))) hg
theorem gw_5 {w : Cond} (i : Nat) (h : tables_1_5[i]? = some w) (hg : goodWord w = true) : w ∈ gw := gw_of (List.mem_append_right _ (List.mem_append_right _ (List.mem_append_right _ (List.mem_append_right _ (List.mem_append_left _ (List.mem_of_getElem? h)))))) hg
theorem gw_6 {w : Cond} (i : Nat) (h : tables_1_6[i]? = some w) (hg : goodWord w = true) : w ∈ gw := gw_of (List.mem_append_right _ (List.mem_append_right _ (List.mem_append_right _ (List.mem_append_right _ (List.mem_append_right _ (List.mem_append_left _ (List.mem_of_getElem? h))))))) hg
theorem gw_7 {w : Cond} (i : Nat) (h : tables_1_7[i]? = some w) (hg : goodWord w = true) : w ∈ gw := gw_of (List.mem_append_right _ (List.mem_append_right _ (List.mem_append_right _ (List.mem_append_right _ (List.mem_append_right _ (List.mem_append_right _ (List.mem_append_left _ (List.mem_of_getElem? h)))))))) hg
theorem gw_8 {w : Cond} (i : Nat) (h : tables_1_8[i]? = some w) (hg : goodWord w = true) : w ∈ gw := gw_of (List.mem_append_right _ (List.mem_append_right _ (List.mem_append_right _ (List.mem_append_right _ (List.mem_append_right _ (List.mem_append_right _ (List.mem_append_right _ (List.mem_append_left _ (List.mem_of_getElem? h))))))))) hg
theorem gw_9 {w : Cond} (i : Nat) (h : tables_1_9[i]? = some w) (hg : goodWord w = true) : w ∈ gw := gw_of (List.mem_append_right _ (List.mem_append_right _ (List.mem_append_right _ (List.mem_append_right _ (List.mem_append_right _ (List.mem_append_right _ (List.mem_append_right _ (List.mem_append_right _ (List.mem_of_getElem? h))))))))) hg
theorem gw_s {y : MethodName} {n : Nat} (h : (y, n) ∈ lw_privs) : Cond.selects y.cls y y ∈ gw := List.mem_filter.mpr ⟨List.mem_append_left _ (List.mem_map.mpr ⟨(y, n), h, rfl⟩), rfl⟩
theorem gw_hts {args : Array Value} {s : State} (h : ∀ w ∈ lw_tbl, w.before args s = true) : ∀ w ∈ gw, w.before args s = true := fun w hw => h w (List.mem_filter.mp hw).1
theorem gw_good {w : Cond} (h : w ∈ gw) : w ∈ gw ∧ ((w.onTables && w.keeps) = true ∨ ∃ ty, w = .arrayClass ty) := ⟨h, good_of_word (List.mem_filter.mp h).2⟩
/-- a method's words: its own code, and all the good ones -/
def px_w (y : MethodName) (c : ByteArray) (n : Nat) (r : Option FieldType) : List Cond := .code y c n r :: gw
theorem px_gI {y : MethodName} {c : ByteArray} {n : Nat} {r : Option FieldType} (h : Cond.code y c n r ∈ gw) : GoodIn gw (px_w y c n r) := fun w hw => (List.mem_cons.mp hw).elim (fun e => by rw [e]; exact gw_good h) gw_good
theorem px_gV {own C : String} {idx : Nat} {y : MethodName} {c : ByteArray} {n : Nat} {r : Option FieldType} (h1 : Cond.methodLink own idx y ∈ gw) (h2 : Cond.instanceMethod y ∈ gw) (h3 : Cond.selects C y y ∈ gw) (h4 : Cond.initialized C ∈ gw) (h : Cond.code y c n r ∈ gw) : GoodIn gw (wsV own idx C y (px_w y c n r)) := by
  intro w hw
  rcases List.mem_append.mp hw with hw | hw
  · simp only [List.mem_cons, List.not_mem_nil, or_false] at hw
    rcases hw with rfl | rfl | rfl | rfl
    · exact gw_good h1
    · exact gw_good h2
    · exact gw_good h3
    · exact gw_good h4
  · exact px_gI h w hw
theorem px_gS {own : String} {idx : Nat} {y : MethodName} {c : ByteArray} {n : Nat} {r : Option FieldType} (h1 : Cond.methodLink own idx y ∈ gw) (h2 : Cond.static y ∈ gw) (h4 : Cond.initialized y.cls ∈ gw) (h : Cond.code y c n r ∈ gw) : GoodIn gw (va_wsS own idx y (px_w y c n r)) := by
  intro w hw
  rcases List.mem_append.mp hw with hw | hw
  · simp only [List.mem_cons, List.not_mem_nil, or_false] at hw
    rcases hw with rfl | rfl | rfl
    · exact gw_good h1
    · exact gw_good h2
    · exact gw_good h4
  · exact px_gI h w hw
/-- the array classes -/
abbrev px_tys (y : Nat → ClassId) : List (ClassId × FieldType) := [(y 0, .byte), (y 1, .int), (y 2, .long), (y 3, .boolean), (y 4, .object "SevenTable$Game"), (y 5, .object "SevenTable$Sentence")]
theorem px_ra {U : State} {c1 c2 : ClassId} {ty : FieldType} (h1 : va_RA U c1 ty) (h2 : va_RA U c2 ty) : c1 = c2 := by
  cases ty with
  | object C =>
    obtain ⟨_, _, _, _, _, e1⟩ := h1
    obtain ⟨_, _, _, _, _, e2⟩ := h2
    exact Option.some.inj (e1.symm.trans e2)
  | _ => exact Option.some.inj (Eq.trans (Eq.symm h1) h2)
def px_P (D : va_G) (y : Nat → ClassId) (sz : Nat) (ws : va_W) (U : State) : Prop := U.heap.size = sz ∧ va_P D vwCl ws U.heap ∧ va_K D vwCl (px_tys y) U ∧ va_D (fun _ => True) ws
theorem px_blind {D : va_G} {y : Nat → ClassId} {sz : Nat} {ws : va_W} {av : List Value} : FrameBlind (va_Pc av (px_P D y sz ws)) := fun a U g mk q => by
  obtain ⟨q0, q1, qP, qK, qD⟩ := q
  exact ⟨q0, q1, qP, va_K.moved (u := U) (U := U.calling g mk a) (Vm.Alike.refl U.vm) qK, qD⟩
theorem px_preS {D : va_G} {y : Nat → ClassId} {A : Nat → Prop} {s : State} {H : Heap} {ws : va_W} {As : List Value} (hK : va_K D vwCl (px_tys y) s) (hP : va_P D vwCl ws H) (hD : va_D A ws) : PreS s H (va_Pc As (px_P D y H.size ws)) As :=
  ⟨px_blind, fun U hU hW => ⟨rfl, by rw [hU], by rw [hU]; exact hP, va_K.moved hW.alike hK, hD.weaken (fun _ _ _ _ => trivial)⟩⟩
theorem px_preV {D : va_G} {y : Nat → ClassId} {A : Nat → Prop} {s : State} {H : Heap} {ws : va_W} {As : List Value} {b q0 ci : Nat} {q : vw_C} {fs : List Value} (hK : va_K D vwCl (px_tys y) s) (hP : va_P D vwCl ws H) (hD : va_D A ws) (hc : vwCl[ci]? = some q) (he : ws[q0]? = some (b, .inr (ci, fs))) : PreV s H q.1 b (va_Pc (.ref b :: As) (px_P D y H.size ws)) As :=
  ⟨px_blind, va_recv hK hP hc he, fun U hU hW => ⟨rfl, by rw [hU], by rw [hU]; exact hP, va_K.moved hW.alike hK, hD.weaken (fun _ _ _ _ => trivial)⟩⟩
theorem px_sn {l : List Value} {i j : Nat} {v w : Value} (h : i ≠ j) (hj : l[j]? = some w) : (l.set i v)[j]? = some w := by rw [List.getElem?_set_ne h]; exact hj
theorem px_ss {l : List Value} {i : Nat} {v w : Value} (hj : l[i]? = some w) : (l.set i v)[i]? = some v := by rw [List.getElem?_set_self (List.getElem?_eq_some_iff.mp hj).1]
theorem px_len {l : List Value} {i : Nat} {w : Value} (hj : l[i]? = some w) : i < l.length := (List.getElem?_eq_some_iff.mp hj).1
section PX
variable {p : Program} {l : Launch} {e : Env} {R : Room} {s : State} {m : MethodId} {args : Array Value} {below : List Frame} {meth : Method} {c : Code} {H : Heap} {locs : List Loc} {cells slots : Nat} {Q : State → Prop}
variable {cc : ByteArray} {pc : Nat} {ls : Array Slot} {rest : List Value} {D : va_G} {cl : List vw_C} {A : Nat → Prop} {tys : List (ClassId × FieldType)} {ws : va_W} {H0 : Heap}
theorem px_top {x v : Int32} (h : x = v) (k : W p l e R s m args below meth c H locs cells slots Q (F0 m pc ls (.int v :: rest))) : W p l e R s m args below meth c H locs cells slots Q (F0 m pc ls (.int x :: rest)) := by subst h; exact k
theorem px_topl {x v : Int64} (h : x = v) (k : W p l e R s m args below meth c H locs cells slots Q (F0 m pc ls (.long v :: rest))) : W p l e R s m args below meth c H locs cells slots Q (F0 m pc ls (.long x :: rest)) := by subst h; exact k
theorem px_newa (hexec : p.tables.exec = Jvm.exec) (hb : c.code = cc) {atype : ArrayType} (harr : (Cond.arrayClass (newarray.typeOf atype)).before args s = true) {ty : FieldType} (hty : newarray.typeOf atype = ty) (hK : va_K D cl tys s) (hP : va_P D cl ws H) (hD : va_D A ws) (hS : va_S A H0 H locs) (hA : ∀ q, H0.size ≤ q → A q) (t0 : Nat) {cy : ClassId} (ht : tys[t0]? = some (cy, ty))
    {n : Int32} {N' : Nat} {a0 : vp_A} (ha : ∀ cA : ClassId, vp_cell cA a0 = arrV cA N' (fun _ => defaultValue ty)) (hn : ¬ n < 0) (hN : n.toNatClampNeg = N') (hbytes : N' * componentBytes ty ≤ 536870912) (hcells : cells + 1 ≤ R.cells) (hslots : slots + N' ≤ R.slots) (hdg : decode cc pc = .ok (.newarray atype, 2))
    (kk : ∀ (q : Nat) (H1 : Heap), va_P D cl (ws ++ [(q, .inl (cy, a0))]) H1 → va_D A (ws ++ [(q, .inl (cy, a0))]) → va_S A H0 H1 locs →
      W p l e R s m args below meth c H1 locs (cells + 1) (slots + N') Q (F0 m (pc + 2) ls (.ref q :: rest))) : W p l e R s m args below meth c H locs cells slots Q (F0 m pc ls (.int n :: rest)) := by
  refine va_newa hexec hb harr hty hK hP hD hS hA ha hn hN hbytes hcells hslots hdg (fun q cA H1 hK1 hP1 hD1 hS1 => ?_)
  have e1 : va_RA s cA ty := (hK1.2 tys.length (cA, ty) (by simp)).2
  have e2 : cA = cy := px_ra e1 (hK.2 t0 _ ht).2
  subst e2
  exact kk q H1 hP1 hD1 hS1
theorem px_newq (hexec : p.tables.exec = Jvm.exec) (hb : c.code = cc) {own C : String} {index : Nat} (hown : s.vm.findClass own = some m.cls) (hclink : (Cond.classLink own index C).before args s = true) (hover : va_AO C s) (hK : va_K D cl tys s) (hP : va_P D cl ws H) (hD : va_D A ws) (hS : va_S A H0 H locs) (hA : ∀ q, H0.size ≤ q → A q) (t0 : Nat) {cy : ClassId} (ht : tys[t0]? = some (cy, .object C))
    {n : Int32} {N' : Nat} (hn : ¬ n < 0) (hN : n.toNatClampNeg = N') (hbytes : N' * 4 ≤ 536870912) (hcells : cells + 1 ≤ R.cells) (hslots : slots + N' ≤ R.slots) (hdg : decode cc pc = .ok (.anewarray index, 3))
    (kk : ∀ (q : Nat) (H1 : Heap), va_P D cl (ws ++ [(q, .inl (cy, N', .inr (.inr (.inr (.inr (fun _ => none))))))]) H1 → va_D A (ws ++ [(q, .inl (cy, N', .inr (.inr (.inr (.inr (fun _ => none))))))]) → va_S A H0 H1 locs →
      W p l e R s m args below meth c H1 locs (cells + 1) (slots + N') Q (F0 m (pc + 3) ls (.ref q :: rest))) : W p l e R s m args below meth c H locs cells slots Q (F0 m pc ls (.int n :: rest)) := by
  refine va_newq hexec hb hown hclink hover hK hP hD hS hA hn hN hbytes hcells hslots hdg (fun q cA H1 hK1 hP1 hD1 hS1 => ?_)
  have e1 : va_RA s cA (.object C) := (hK1.2 tys.length (cA, .object C) (by simp)).2
  have e2 : cA = cy := px_ra e1 (hK.2 t0 _ ht).2
  subst e2
  exact kk q H1 hP1 hD1 hS1
end PX
/-- two facts about one number that can't both hold -/
theorem px_abs1 {x : Int32} {P : Prop} (h1 : ¬ x < 0) (h2 : ¬ 0 ≤ x) : P := absurd (Int32.not_lt.mp h1) h2
theorem px_abs2 {x : Int32} {P : Prop} (h1 : ¬ x < 0) (h2 : x < 0) : P := absurd h2 h1
/-- what is new behind a method: addresses, contents of rows of ints and of longs -/
abbrev px_U : Type := (Nat → Nat) × (Nat → Nat → Int32) × (Nat → Nat → Int64)
def px_v (l : List Nat) : Nat → Nat := fun k => l.getD k 0
def px_vi (l : List (Nat → Int32)) : Nat → Nat → Int32 := fun k => l.getD k (fun _ => 0)
def px_vl (l : List (Nat → Int64)) : Nat → Nat → Int64 := fun k => l.getD k (fun _ => 0)
theorem px_split {x : Int32} {n : Nat} (hn : n < 2 ^ 31) (h1 : 0 ≤ x.toInt) (h2 : x.toInt ≤ n) : ∃ j : Nat, j ≤ n ∧ x = nI j := by
  obtain ⟨j, h3, h4⟩ := nI_of (x := x) (fun h => by rw [Int32.lt_iff_toInt_lt] at h; have e : (0 : Int32).toInt = 0 := rfl; omega)
  refine ⟨j, ?_, h4⟩
  rw [h4, nI_toInt h3] at h2
  omega
/-- a counting loop: i up to N, a state a of your own behind world and locals -/
theorem px_loop1 {p : Program} {l : Launch} {e : Env} {R : Room} {s : State} {m : MethodId} {args : Array Value} {below : List Frame} {meth : Method} {c : Code} {cells slots : Nat} {Q : State → Prop} {pc : Nat} {st : List Value} {D : va_G} {A : Nat → Prop} {H0 : Heap} {nL : Nat} {α : Type} (N : Nat) (ws : Nat → α → va_W) (lv : Nat → α → List (Nat × Value)) (inv : Nat → α → Prop)
    (step : ∀ (i : Nat) (a : α), i < N → inv i a → (∀ (a' : α) (H : Heap) (locs : List Loc) (ls : Array Slot), inv (i + 1) a' → va_P D vwCl (ws (i + 1) a') H → va_D A (ws (i + 1) a') → va_S A H0 H locs → lv_has ls nL (lv (i + 1) a') → W p l e R s m args below meth c H locs cells slots Q (F0 m pc ls st)) →
      ∀ (H : Heap) (locs : List Loc) (ls : Array Slot), va_P D vwCl (ws i a) H → va_D A (ws i a) → va_S A H0 H locs → lv_has ls nL (lv i a) → W p l e R s m args below meth c H locs cells slots Q (F0 m pc ls st))
    (exit : ∀ a : α, inv N a → ∀ (H : Heap) (locs : List Loc) (ls : Array Slot), va_P D vwCl (ws N a) H → va_D A (ws N a) → va_S A H0 H locs → lv_has ls nL (lv N a) → W p l e R s m args below meth c H locs cells slots Q (F0 m pc ls st))
    (i : Nat) (hi : i ≤ N) (a : α) (ha : inv i a) {H : Heap} {locs : List Loc} {ls : Array Slot} (hP : va_P D vwCl (ws i a) H) (hD : va_D A (ws i a)) (hS : va_S A H0 H locs) (hl : lv_has ls nL (lv i a)) : W p l e R s m args below meth c H locs cells slots Q (F0 m pc ls st) := by
  have key : ∀ (n i : Nat) (a : α), n + i = N → inv i a → ∀ (H : Heap) (locs : List Loc) (ls : Array Slot), va_P D vwCl (ws i a) H → va_D A (ws i a) → va_S A H0 H locs → lv_has ls nL (lv i a) → W p l e R s m args below meth c H locs cells slots Q (F0 m pc ls st) := by
    intro n
    induction n with
    | zero =>
      intro i a hn ha H locs ls hP hD hS hl
      obtain rfl : i = N := by omega
      exact exit a ha H locs ls hP hD hS hl
    | succ n ih =>
      intro i a hn ha H locs ls hP hD hS hl
      exact step i a (by omega) ha (fun a' H' locs' ls' ha' hP' hD' hS' hl' => ih (i + 1) a' (by omega) ha' H' locs' ls' hP' hD' hS' hl') H locs ls hP hD hS hl
  exact key (N - i) i a (by omega) ha H locs ls hP hD hS hl
/-- answers that hang on an argument -/
def px_now (w : Int32) : Int32 := if w.toInt < 1 ∨ 5 < w.toInt then -1 else 0
def px_cnt (w : Int32) : Int32 := if w.toInt < 0 ∨ 4 < w.toInt then -1 else 0
def px_is0 (w : Int32) : Int32 := if w.toInt < 0 ∨ 0 < w.toInt then 0 else 1
def px_is01 (w : Int32) : Int32 := if w.toInt < 0 ∨ 1 < w.toInt then 0 else 1
def px_eve (w : Int32) : Int32 := if w.toInt < 0 ∨ 1 < w.toInt then -1000 else -1
theorem px_in {i : Int32} {n : Nat} (h : ¬ (i < 0 ∨ n ≤ i.toNatClampNeg)) : vp_in i n := h
end
section
/-! the words that the rows use, each by its place in the tables; printed by wip/p1/gen.py -/
theorem q_p_107 : Cond.selects RX11 yX11_areGames yX11_areGames ∈ gw := gw_s (y := yX11_areGames) (n := 65) (List.mem_append_right _ (List.mem_append_right _ (List.mem_append_right _ (List.mem_append_right _ (List.mem_append_right _ (List.mem_append_right _ (List.mem_append_left _ (List.mem_of_getElem? (i := 11) (by decide +kernel)))))))))
theorem q_p_116 : Cond.selects RX11 yX11_operand yX11_operand ∈ gw := gw_s (y := yX11_operand) (n := 65) (List.mem_append_right _ (List.mem_append_right _ (List.mem_append_right _ (List.mem_append_right _ (List.mem_append_right _ (List.mem_append_right _ (List.mem_append_right _ (List.mem_of_getElem? (i := 4) (by decide +kernel)))))))))
theorem q_p_117 : Cond.selects RX11 yX11_leafOf yX11_leafOf ∈ gw := gw_s (y := yX11_leafOf) (n := 65) (List.mem_append_right _ (List.mem_append_right _ (List.mem_append_right _ (List.mem_append_right _ (List.mem_append_right _ (List.mem_append_right _ (List.mem_append_right _ (List.mem_of_getElem? (i := 5) (by decide +kernel)))))))))
theorem q_p_15 : Cond.selects RX10 yX10_areSuch yX10_areSuch ∈ gw := gw_s (y := yX10_areSuch) (n := 20) (List.mem_append_left _ (List.mem_of_getElem? (i := 15) (by decide +kernel)))
theorem q_p_27 : Cond.selects RX10 yX10_isOpen yX10_isOpen ∈ gw := gw_s (y := yX10_isOpen) (n := 20) (List.mem_append_right _ (List.mem_append_left _ (List.mem_of_getElem? (i := 11) (by decide +kernel))))
theorem q_p_39 : Cond.selects RX10 yX10_isRule yX10_isRule ∈ gw := gw_s (y := yX10_isRule) (n := 20) (List.mem_append_right _ (List.mem_append_right _ (List.mem_append_left _ (List.mem_of_getElem? (i := 7) (by decide +kernel)))))
theorem q_p_46 : Cond.selects RX10 yX10_areGames yX10_areGames ∈ gw := gw_s (y := yX10_areGames) (n := 20) (List.mem_append_right _ (List.mem_append_right _ (List.mem_append_left _ (List.mem_of_getElem? (i := 14) (by decide +kernel)))))
theorem q_p_58 : Cond.selects RX11 yX11_four yX11_four ∈ gw := gw_s (y := yX11_four) (n := 65) (List.mem_append_right _ (List.mem_append_right _ (List.mem_append_right _ (List.mem_append_left _ (List.mem_of_getElem? (i := 10) (by decide +kernel))))))
theorem q_p_59 : Cond.selects RX11 yX11_taken yX11_taken ∈ gw := gw_s (y := yX11_taken) (n := 65) (List.mem_append_right _ (List.mem_append_right _ (List.mem_append_right _ (List.mem_append_left _ (List.mem_of_getElem? (i := 11) (by decide +kernel))))))
theorem q_p_60 : Cond.selects RX11 yX11_next yX11_next ∈ gw := gw_s (y := yX11_next) (n := 65) (List.mem_append_right _ (List.mem_append_right _ (List.mem_append_right _ (List.mem_append_left _ (List.mem_of_getElem? (i := 12) (by decide +kernel))))))
theorem q_p_61 : Cond.selects RX11 yX11_peek yX11_peek ∈ gw := gw_s (y := yX11_peek) (n := 65) (List.mem_append_right _ (List.mem_append_right _ (List.mem_append_right _ (List.mem_append_left _ (List.mem_of_getElem? (i := 13) (by decide +kernel))))))
theorem q_p_63 : Cond.selects RX11 yX11_isWord yX11_isWord ∈ gw := gw_s (y := yX11_isWord) (n := 65) (List.mem_append_right _ (List.mem_append_right _ (List.mem_append_right _ (List.mem_append_left _ (List.mem_of_getElem? (i := 15) (by decide +kernel))))))
theorem q_p_64 : Cond.selects RX11 yX11_bad yX11_bad ∈ gw := gw_s (y := yX11_bad) (n := 65) (List.mem_append_right _ (List.mem_append_right _ (List.mem_append_right _ (List.mem_append_right _ (List.mem_append_left _ (List.mem_of_getElem? (i := 0) (by decide +kernel)))))))
theorem q_p_70 : Cond.selects RX11 yX11_isSign yX11_isSign ∈ gw := gw_s (y := yX11_isSign) (n := 65) (List.mem_append_right _ (List.mem_append_right _ (List.mem_append_right _ (List.mem_append_right _ (List.mem_append_left _ (List.mem_of_getElem? (i := 6) (by decide +kernel)))))))
theorem q_p_78 : Cond.selects RX11 yX11_settles yX11_settles ∈ gw := gw_s (y := yX11_settles) (n := 65) (List.mem_append_right _ (List.mem_append_right _ (List.mem_append_right _ (List.mem_append_right _ (List.mem_append_left _ (List.mem_of_getElem? (i := 14) (by decide +kernel)))))))
theorem q_p_81 : Cond.selects RX11 yX11_isPerson yX11_isPerson ∈ gw := gw_s (y := yX11_isPerson) (n := 65) (List.mem_append_right _ (List.mem_append_right _ (List.mem_append_right _ (List.mem_append_right _ (List.mem_append_right _ (List.mem_append_left _ (List.mem_of_getElem? (i := 1) (by decide +kernel))))))))
theorem q_p_82 : Cond.selects RX11 yX11_isKind yX11_isKind ∈ gw := gw_s (y := yX11_isKind) (n := 65) (List.mem_append_right _ (List.mem_append_right _ (List.mem_append_right _ (List.mem_append_right _ (List.mem_append_right _ (List.mem_append_left _ (List.mem_of_getElem? (i := 2) (by decide +kernel))))))))
theorem q_p_83 : Cond.selects RX11 yX11_throwsIf yX11_throwsIf ∈ gw := gw_s (y := yX11_throwsIf) (n := 65) (List.mem_append_right _ (List.mem_append_right _ (List.mem_append_right _ (List.mem_append_right _ (List.mem_append_right _ (List.mem_append_left _ (List.mem_of_getElem? (i := 3) (by decide +kernel))))))))
theorem q_p_85 : Cond.selects RX11 yX11_allBooks yX11_allBooks ∈ gw := gw_s (y := yX11_allBooks) (n := 65) (List.mem_append_right _ (List.mem_append_right _ (List.mem_append_right _ (List.mem_append_right _ (List.mem_append_right _ (List.mem_append_left _ (List.mem_of_getElem? (i := 5) (by decide +kernel))))))))
theorem q_p_86 : Cond.selects RX11 yX11_areAsked yX11_areAsked ∈ gw := gw_s (y := yX11_areAsked) (n := 65) (List.mem_append_right _ (List.mem_append_right _ (List.mem_append_right _ (List.mem_append_right _ (List.mem_append_right _ (List.mem_append_left _ (List.mem_of_getElem? (i := 6) (by decide +kernel))))))))
theorem q_p_95 : Cond.selects RX11 yX11_openOf yX11_openOf ∈ gw := gw_s (y := yX11_openOf) (n := 65) (List.mem_append_right _ (List.mem_append_right _ (List.mem_append_right _ (List.mem_append_right _ (List.mem_append_right _ (List.mem_append_left _ (List.mem_of_getElem? (i := 15) (by decide +kernel))))))))
theorem q_1_1 : Cond.initialized RX10 ∈ gw := gw_1 1 (by decide +kernel) rfl
theorem q_1_104 : Cond.fieldLink RX10 200 "SevenTable$Game" "turn" "I" ∈ gw := gw_1 104 (by decide +kernel) rfl
theorem q_1_106 : Cond.fieldLink RX10 203 "SevenTable$Game" "askings" "I" ∈ gw := gw_1 106 (by decide +kernel) rfl
theorem q_1_109 : Cond.fieldLink RX10 209 "SevenTable$Game" "vain" "I" ∈ gw := gw_1 109 (by decide +kernel) rfl
theorem q_1_14 : Cond.initialized RX5 ∈ gw := gw_1 14 (by decide +kernel) rfl
theorem q_1_15 : Cond.initialized RX11 ∈ gw := gw_1 15 (by decide +kernel) rfl
theorem q_1_159 : Cond.fieldLink RX10 354 "SevenTable$Sentence" "size" "I" ∈ gw := gw_1 159 (by decide +kernel) rfl
theorem q_1_2 : Cond.initialized RX2 ∈ gw := gw_1 2 (by decide +kernel) rfl
theorem q_1_64 : Cond.fieldLink RX2 9 "SevenTable$Game" "kinds" "I" ∈ gw := gw_1 64 (by decide +kernel) rfl
theorem q_1_69 : Cond.fieldLink RX10 284 "SevenTable$Game" "kinds" "I" ∈ gw := gw_1 69 (by decide +kernel) rfl
theorem q_1_70 : Cond.fieldLink RX2 15 "SevenTable$Game" "persons" "I" ∈ gw := gw_1 70 (by decide +kernel) rfl
theorem q_1_73 : Cond.fieldLink RX10 277 "SevenTable$Game" "persons" "I" ∈ gw := gw_1 73 (by decide +kernel) rfl
theorem q_1_77 : Cond.fieldLink RX10 358 "SevenTable$Game" "again" "Z" ∈ gw := gw_1 77 (by decide +kernel) rfl
theorem q_1_81 : Cond.fieldLink RX10 362 "SevenTable$Game" "refill" "I" ∈ gw := gw_1 81 (by decide +kernel) rfl
theorem q_1_89 : Cond.fieldLink RX2 39 "SevenTable$Game" "heapFrom" "I" ∈ gw := gw_1 89 (by decide +kernel) rfl
theorem q_1_92 : Cond.fieldLink RX2 42 "SevenTable$Game" "heapTo" "I" ∈ gw := gw_1 92 (by decide +kernel) rfl
theorem q_2_104 : Cond.fieldLink RX10 13 "SevenTable" "tapeSize" "I" ∈ gw := gw_2 104 (by decide +kernel) rfl
theorem q_2_105 : Cond.fieldLink RX10 17 "SevenTable" "faultKind" "I" ∈ gw := gw_2 105 (by decide +kernel) rfl
theorem q_2_106 : Cond.fieldLink RX10 23 "SevenTable" "game" "LSevenTable$Game;" ∈ gw := gw_2 106 (by decide +kernel) rfl
theorem q_2_108 : Cond.fieldLink RX10 33 "SevenTable" "told" "LSevenTable$Sentence;" ∈ gw := gw_2 108 (by decide +kernel) rfl
theorem q_2_113 : Cond.fieldLink RX10 70 "SevenTable" "past" "LSevenTable$Past;" ∈ gw := gw_2 113 (by decide +kernel) rfl
theorem q_2_114 : Cond.fieldLink RX10 74 "SevenTable" "keptGames" "[LSevenTable$Game;" ∈ gw := gw_2 114 (by decide +kernel) rfl
theorem q_2_116 : Cond.fieldLink RX10 82 "SevenTable" "latest" "[I" ∈ gw := gw_2 116 (by decide +kernel) rfl
theorem q_2_118 : Cond.fieldLink RX10 89 "SevenTable" "verdict" "[I" ∈ gw := gw_2 118 (by decide +kernel) rfl
theorem q_2_120 : Cond.fieldLink RX10 95 "SevenTable" "sweepSize" "I" ∈ gw := gw_2 120 (by decide +kernel) rfl
theorem q_2_91 : Cond.fieldLink RX5 15 "SevenTable$Past" "top" "I" ∈ gw := gw_2 91 (by decide +kernel) rfl
theorem q_2_92 : Cond.fieldLink RX5 19 "SevenTable$Past" "size" "I" ∈ gw := gw_2 92 (by decide +kernel) rfl
theorem q_3_115 : Cond.methodLink RX10 138 yX2_hasPerson ∈ gw := gw_3 115 (by decide +kernel) rfl
theorem q_3_116 : Cond.instanceMethod yX2_hasPerson ∈ gw := gw_3 116 (by decide +kernel) rfl
theorem q_3_117 : Cond.selects RX2 yX2_hasPerson yX2_hasPerson ∈ gw := gw_3 117 (by decide +kernel) rfl
theorem q_3_118 : Cond.code yX2_hasPerson cX2_hasPerson 2 (some .boolean) ∈ gw := gw_3 118 (by decide +kernel) rfl
theorem q_3_120 : Cond.instanceMethod yX2_booksOf ∈ gw := gw_3 120 (by decide +kernel) rfl
theorem q_3_121 : Cond.selects RX2 yX2_booksOf yX2_booksOf ∈ gw := gw_3 121 (by decide +kernel) rfl
theorem q_3_122 : Cond.code yX2_booksOf cX2_booksOf 4 (some .int) ∈ gw := gw_3 122 (by decide +kernel) rfl
theorem q_3_135 : Cond.methodLink RX10 142 yX2_hasKind ∈ gw := gw_3 135 (by decide +kernel) rfl
theorem q_3_136 : Cond.instanceMethod yX2_hasKind ∈ gw := gw_3 136 (by decide +kernel) rfl
theorem q_3_137 : Cond.selects RX2 yX2_hasKind yX2_hasKind ∈ gw := gw_3 137 (by decide +kernel) rfl
theorem q_3_138 : Cond.code yX2_hasKind cX2_hasKind 2 (some .boolean) ∈ gw := gw_3 138 (by decide +kernel) rfl
theorem q_3_143 : Cond.methodLink RX10 190 yX2_heapSize ∈ gw := gw_3 143 (by decide +kernel) rfl
theorem q_3_144 : Cond.instanceMethod yX2_heapSize ∈ gw := gw_3 144 (by decide +kernel) rfl
theorem q_3_145 : Cond.selects RX2 yX2_heapSize yX2_heapSize ∈ gw := gw_3 145 (by decide +kernel) rfl
theorem q_3_146 : Cond.code yX2_heapSize cX2_heapSize 1 (some .int) ∈ gw := gw_3 146 (by decide +kernel) rfl
theorem q_3_151 : Cond.methodLink RX10 206 yX2_allBooks ∈ gw := gw_3 151 (by decide +kernel) rfl
theorem q_3_152 : Cond.instanceMethod yX2_allBooks ∈ gw := gw_3 152 (by decide +kernel) rfl
theorem q_3_153 : Cond.selects RX2 yX2_allBooks yX2_allBooks ∈ gw := gw_3 153 (by decide +kernel) rfl
theorem q_3_154 : Cond.code yX2_allBooks cX2_allBooks 1 (some .int) ∈ gw := gw_3 154 (by decide +kernel) rfl
theorem q_3_155 : Cond.methodLink RX2 105 yX2_booksOf ∈ gw := gw_3 155 (by decide +kernel) rfl
theorem q_3_156 : Cond.methodLink RX10 212 yX2_loose ∈ gw := gw_3 156 (by decide +kernel) rfl
theorem q_3_157 : Cond.instanceMethod yX2_loose ∈ gw := gw_3 157 (by decide +kernel) rfl
theorem q_3_158 : Cond.selects RX2 yX2_loose yX2_loose ∈ gw := gw_3 158 (by decide +kernel) rfl
theorem q_3_159 : Cond.code yX2_loose cX2_loose 3 (some .int) ∈ gw := gw_3 159 (by decide +kernel) rfl
theorem q_3_160 : Cond.methodLink RX2 101 yX2_heapSize ∈ gw := gw_3 160 (by decide +kernel) rfl
theorem q_3_165 : Cond.methodLink RX10 215 yX10_areSuch ∈ gw := gw_3 165 (by decide +kernel) rfl
theorem q_3_167 : Cond.instanceMethod yX10_areSuch ∈ gw := gw_3 167 (by decide +kernel) rfl
theorem q_3_168 : Cond.code yX10_areSuch cX10_areSuch 4 (some .boolean) ∈ gw := gw_3 168 (by decide +kernel) rfl
theorem q_3_220 : Cond.methodLink RX10 230 yX5_takeBack ∈ gw := gw_3 220 (by decide +kernel) rfl
theorem q_3_221 : Cond.instanceMethod yX5_takeBack ∈ gw := gw_3 221 (by decide +kernel) rfl
theorem q_3_222 : Cond.selects RX5 yX5_takeBack yX5_takeBack ∈ gw := gw_3 222 (by decide +kernel) rfl
theorem q_3_223 : Cond.code yX5_takeBack cX5_takeBack 3 (some .boolean) ∈ gw := gw_3 223 (by decide +kernel) rfl
theorem q_4_133 : Cond.methodLink RX10 294 yX10_isOpen ∈ gw := gw_4 133 (by decide +kernel) rfl
theorem q_4_135 : Cond.instanceMethod yX10_isOpen ∈ gw := gw_4 135 (by decide +kernel) rfl
theorem q_4_136 : Cond.code yX10_isOpen cX10_isOpen 1 (some .boolean) ∈ gw := gw_4 136 (by decide +kernel) rfl
theorem q_5_10 : Cond.methodLink RX10 311 yX10_isRule ∈ gw := gw_5 10 (by decide +kernel) rfl
theorem q_5_12 : Cond.instanceMethod yX10_isRule ∈ gw := gw_5 12 (by decide +kernel) rfl
theorem q_5_13 : Cond.code yX10_isRule cX10_isRule 2 (some .boolean) ∈ gw := gw_5 13 (by decide +kernel) rfl
theorem q_5_51 : Cond.methodLink RX10 320 yX2_canDeal ∈ gw := gw_5 51 (by decide +kernel) rfl
theorem q_5_52 : Cond.instanceMethod yX2_canDeal ∈ gw := gw_5 52 (by decide +kernel) rfl
theorem q_5_53 : Cond.selects RX2 yX2_canDeal yX2_canDeal ∈ gw := gw_5 53 (by decide +kernel) rfl
theorem q_5_54 : Cond.code yX2_canDeal cX2_canDeal 2 (some .boolean) ∈ gw := gw_5 54 (by decide +kernel) rfl
theorem q_5_65 : Cond.methodLink RX10 326 yX10_areGames ∈ gw := gw_5 65 (by decide +kernel) rfl
theorem q_5_67 : Cond.instanceMethod yX10_areGames ∈ gw := gw_5 67 (by decide +kernel) rfl
theorem q_5_68 : Cond.code yX10_areGames cX10_areGames 4 (some .boolean) ∈ gw := gw_5 68 (by decide +kernel) rfl
theorem q_6_118 : Cond.constantLong RX11 137 (7237492) ∈ gw := gw_6 118 (by decide +kernel) rfl
theorem q_6_119 : Cond.constantLong RX11 139 (1651470187) ∈ gw := gw_6 119 (by decide +kernel) rfl
theorem q_6_120 : Cond.constantLong RX11 141 (461414299502) ∈ gw := gw_6 120 (by decide +kernel) rfl
theorem q_6_121 : Cond.constantLong RX11 143 (1751477348) ∈ gw := gw_6 121 (by decide +kernel) rfl
theorem q_6_122 : Cond.constantLong RX11 145 (448311223411) ∈ gw := gw_6 122 (by decide +kernel) rfl
theorem q_6_123 : Cond.constantLong RX11 147 (114784635741540) ∈ gw := gw_6 123 (by decide +kernel) rfl
theorem q_6_124 : Cond.constantLong RX11 149 (1836020596) ∈ gw := gw_6 124 (by decide +kernel) rfl
theorem q_6_125 : Cond.constantLong RX11 151 (482854658917) ∈ gw := gw_6 125 (by decide +kernel) rfl
theorem q_6_126 : Cond.fieldLink RX11 1 "SevenTableModel" "thrown" "I" ∈ gw := gw_6 126 (by decide +kernel) rfl
theorem q_6_127 : Cond.fieldLink RX11 14 "SevenTableModel" "tape" "[B" ∈ gw := gw_6 127 (by decide +kernel) rfl
theorem q_6_128 : Cond.fieldLink RX11 7 "SevenTableModel" "length" "I" ∈ gw := gw_6 128 (by decide +kernel) rfl
theorem q_6_129 : Cond.fieldLink RX11 18 "SevenTableModel" "size" "I" ∈ gw := gw_6 129 (by decide +kernel) rfl
theorem q_6_130 : Cond.fieldLink RX11 21 "SevenTableModel" "p" "I" ∈ gw := gw_6 130 (by decide +kernel) rfl
theorem q_6_131 : Cond.fieldLink RX11 24 "SevenTableModel" "limit" "I" ∈ gw := gw_6 131 (by decide +kernel) rfl
theorem q_6_132 : Cond.fieldLink RX11 33 "SevenTableModel" "s" "[I" ∈ gw := gw_6 132 (by decide +kernel) rfl
theorem q_6_137 : Cond.fieldLink RX11 163 "SevenTableModel" "token" "I" ∈ gw := gw_6 137 (by decide +kernel) rfl
theorem q_6_138 : Cond.fieldLink RX11 157 "SevenTableModel" "at" "I" ∈ gw := gw_6 138 (by decide +kernel) rfl
theorem q_6_139 : Cond.fieldLink RX11 160 "SevenTableModel" "span" "I" ∈ gw := gw_6 139 (by decide +kernel) rfl
theorem q_6_141 : Cond.fieldLink RX11 180 "SevenTableModel" "fault" "I" ∈ gw := gw_6 141 (by decide +kernel) rfl
theorem q_6_142 : Cond.fieldLink RX11 183 "SevenTableModel" "faultAt" "I" ∈ gw := gw_6 142 (by decide +kernel) rfl
theorem q_6_150 : Cond.fieldLink RX11 310 "SevenTableModel" "hasAsked" "Z" ∈ gw := gw_6 150 (by decide +kernel) rfl
theorem q_6_153 : Cond.fieldLink RX11 246 "SevenTableModel" "undoMany" "I" ∈ gw := gw_6 153 (by decide +kernel) rfl
theorem q_6_163 : Cond.fieldLink RX11 349 "SevenTableModel" "sweepMany" "I" ∈ gw := gw_6 163 (by decide +kernel) rfl
theorem q_6_173 : Cond.fieldLink RX11 391 "SevenTableModel" "openFirst" "I" ∈ gw := gw_6 173 (by decide +kernel) rfl
theorem q_6_180 : Cond.fieldLink RX11 445 "SevenTableModel" "hasHeard" "Z" ∈ gw := gw_6 180 (by decide +kernel) rfl
theorem q_6_182 : Cond.fieldLink RX11 448 "SevenTableModel" "codes" "I" ∈ gw := gw_6 182 (by decide +kernel) rfl
theorem q_6_183 : Cond.fieldLink RX11 464 "SevenTableModel" "ones" "I" ∈ gw := gw_6 183 (by decide +kernel) rfl
theorem q_6_184 : Cond.fieldLink RX11 451 "SevenTableModel" "top" "I" ∈ gw := gw_6 184 (by decide +kernel) rfl
theorem q_6_185 : Cond.fieldLink RX11 458 "SevenTableModel" "deep" "I" ∈ gw := gw_6 185 (by decide +kernel) rfl
theorem q_6_186 : Cond.fieldLink RX11 467 "SevenTableModel" "isWhole" "Z" ∈ gw := gw_6 186 (by decide +kernel) rfl
theorem q_6_190 : Cond.fieldLink RX11 112 "SevenTableModel" "isKept" "[Z" ∈ gw := gw_6 190 (by decide +kernel) rfl
theorem q_6_92 : Cond.methodLink RX11 10 yX11_four ∈ gw := gw_6 92 (by decide +kernel) rfl
theorem q_6_94 : Cond.instanceMethod yX11_four ∈ gw := gw_6 94 (by decide +kernel) rfl
theorem q_6_96 : Cond.code yX11_four cX11_four 3 none ∈ gw := gw_6 96 (by decide +kernel) rfl
theorem q_7_109 : Cond.methodLink RX11 202 yX11_isWord ∈ gw := gw_7 109 (by decide +kernel) rfl
theorem q_7_111 : Cond.instanceMethod yX11_isWord ∈ gw := gw_7 111 (by decide +kernel) rfl
theorem q_7_112 : Cond.code yX11_isWord cX11_isWord 3 (some .boolean) ∈ gw := gw_7 112 (by decide +kernel) rfl
theorem q_7_113 : Cond.methodLink RX11 189 yX11_bad ∈ gw := gw_7 113 (by decide +kernel) rfl
theorem q_7_115 : Cond.instanceMethod yX11_bad ∈ gw := gw_7 115 (by decide +kernel) rfl
theorem q_7_116 : Cond.code yX11_bad cX11_bad 2 (some .boolean) ∈ gw := gw_7 116 (by decide +kernel) rfl
theorem q_7_121 : Cond.methodLink RX11 195 yX11_isIn ∈ gw := gw_7 121 (by decide +kernel) rfl
theorem q_7_122 : Cond.static yX11_isIn ∈ gw := gw_7 122 (by decide +kernel) rfl
theorem q_7_123 : Cond.code yX11_isIn cX11_isIn 3 (some .boolean) ∈ gw := gw_7 123 (by decide +kernel) rfl
theorem q_7_140 : Cond.methodLink RX11 186 yX11_isSign ∈ gw := gw_7 140 (by decide +kernel) rfl
theorem q_7_142 : Cond.instanceMethod yX11_isSign ∈ gw := gw_7 142 (by decide +kernel) rfl
theorem q_7_143 : Cond.code yX11_isSign cX11_isSign 2 (some .boolean) ∈ gw := gw_7 143 (by decide +kernel) rfl
theorem q_7_175 : Cond.methodLink RX11 279 yX11_settles ∈ gw := gw_7 175 (by decide +kernel) rfl
theorem q_7_177 : Cond.instanceMethod yX11_settles ∈ gw := gw_7 177 (by decide +kernel) rfl
theorem q_7_178 : Cond.code yX11_settles cX11_settles 4 none ∈ gw := gw_7 178 (by decide +kernel) rfl
theorem q_7_195 : Cond.methodLink RX11 282 yX11_isPerson ∈ gw := gw_7 195 (by decide +kernel) rfl
theorem q_7_197 : Cond.instanceMethod yX11_isPerson ∈ gw := gw_7 197 (by decide +kernel) rfl
theorem q_7_198 : Cond.code yX11_isPerson cX11_isPerson 2 (some .boolean) ∈ gw := gw_7 198 (by decide +kernel) rfl
theorem q_7_199 : Cond.methodLink RX11 285 yX11_isKind ∈ gw := gw_7 199 (by decide +kernel) rfl
theorem q_7_201 : Cond.instanceMethod yX11_isKind ∈ gw := gw_7 201 (by decide +kernel) rfl
theorem q_7_202 : Cond.code yX11_isKind cX11_isKind 2 (some .boolean) ∈ gw := gw_7 202 (by decide +kernel) rfl
theorem q_7_203 : Cond.methodLink RX11 288 yX11_throwsIf ∈ gw := gw_7 203 (by decide +kernel) rfl
theorem q_7_205 : Cond.instanceMethod yX11_throwsIf ∈ gw := gw_7 205 (by decide +kernel) rfl
theorem q_7_206 : Cond.code yX11_throwsIf cX11_throwsIf 2 (some .boolean) ∈ gw := gw_7 206 (by decide +kernel) rfl
theorem q_7_227 : Cond.methodLink RX11 295 yX11_allBooks ∈ gw := gw_7 227 (by decide +kernel) rfl
theorem q_7_229 : Cond.instanceMethod yX11_allBooks ∈ gw := gw_7 229 (by decide +kernel) rfl
theorem q_7_230 : Cond.code yX11_allBooks cX11_allBooks 3 (some .int) ∈ gw := gw_7 230 (by decide +kernel) rfl
theorem q_7_235 : Cond.methodLink RX11 298 yX11_areAsked ∈ gw := gw_7 235 (by decide +kernel) rfl
theorem q_7_237 : Cond.instanceMethod yX11_areAsked ∈ gw := gw_7 237 (by decide +kernel) rfl
theorem q_7_238 : Cond.code yX11_areAsked cX11_areAsked 4 (some .boolean) ∈ gw := gw_7 238 (by decide +kernel) rfl
theorem q_7_87 : Cond.methodLink RX11 234 yX11_taken ∈ gw := gw_7 87 (by decide +kernel) rfl
theorem q_7_89 : Cond.instanceMethod yX11_taken ∈ gw := gw_7 89 (by decide +kernel) rfl
theorem q_7_90 : Cond.code yX11_taken cX11_taken 2 none ∈ gw := gw_7 90 (by decide +kernel) rfl
theorem q_7_91 : Cond.methodLink RX11 192 yX11_next ∈ gw := gw_7 91 (by decide +kernel) rfl
theorem q_7_93 : Cond.instanceMethod yX11_next ∈ gw := gw_7 93 (by decide +kernel) rfl
theorem q_7_94 : Cond.code yX11_next cX11_next 4 none ∈ gw := gw_7 94 (by decide +kernel) rfl
theorem q_7_95 : Cond.methodLink RX11 153 yX11_peek ∈ gw := gw_7 95 (by decide +kernel) rfl
theorem q_7_97 : Cond.instanceMethod yX11_peek ∈ gw := gw_7 97 (by decide +kernel) rfl
theorem q_7_98 : Cond.code yX11_peek cX11_peek 1 (some .int) ∈ gw := gw_7 98 (by decide +kernel) rfl
theorem q_8_164 : Cond.methodLink RX11 432 yX11_areGames ∈ gw := gw_8 164 (by decide +kernel) rfl
theorem q_8_166 : Cond.instanceMethod yX11_areGames ∈ gw := gw_8 166 (by decide +kernel) rfl
theorem q_8_167 : Cond.code yX11_areGames cX11_areGames 4 (some .boolean) ∈ gw := gw_8 167 (by decide +kernel) rfl
theorem q_8_224 : Cond.methodLink RX11 479 yX11_operand ∈ gw := gw_8 224 (by decide +kernel) rfl
theorem q_8_226 : Cond.instanceMethod yX11_operand ∈ gw := gw_8 226 (by decide +kernel) rfl
theorem q_8_227 : Cond.code yX11_operand cX11_operand 5 (some .boolean) ∈ gw := gw_8 227 (by decide +kernel) rfl
theorem q_8_228 : Cond.methodLink RX11 461 yX11_leafOf ∈ gw := gw_8 228 (by decide +kernel) rfl
theorem q_8_230 : Cond.instanceMethod yX11_leafOf ∈ gw := gw_8 230 (by decide +kernel) rfl
theorem q_8_231 : Cond.code yX11_leafOf cX11_leafOf 1 (some .int) ∈ gw := gw_8 231 (by decide +kernel) rfl
theorem q_8_89 : Cond.methodLink RX11 397 yX11_openOf ∈ gw := gw_8 89 (by decide +kernel) rfl
theorem q_8_91 : Cond.instanceMethod yX11_openOf ∈ gw := gw_8 91 (by decide +kernel) rfl
theorem q_8_92 : Cond.code yX11_openOf cX11_openOf 5 (some .int) ∈ gw := gw_8 92 (by decide +kernel) rfl
theorem inGX10 : ∀ w ∈ u_ws RX10 TX10 20, w ∈ gw := by
  intro w hw
  obtain ⟨k, hk, rfl⟩ := List.mem_map.mp hw
  have hk := List.mem_range.mp hk
  match k, hk with
  | 0, _ => exact gw_2 123 (by decide +kernel) rfl
  | 1, _ => exact gw_2 125 (by decide +kernel) rfl
  | 2, _ => exact gw_2 127 (by decide +kernel) rfl
  | 3, _ => exact gw_2 129 (by decide +kernel) rfl
  | 4, _ => exact gw_2 131 (by decide +kernel) rfl
  | 5, _ => exact gw_2 133 (by decide +kernel) rfl
  | 6, _ => exact gw_2 135 (by decide +kernel) rfl
  | 7, _ => exact gw_2 137 (by decide +kernel) rfl
  | 8, _ => exact gw_2 139 (by decide +kernel) rfl
  | 9, _ => exact gw_2 141 (by decide +kernel) rfl
  | 10, _ => exact gw_2 143 (by decide +kernel) rfl
  | 11, _ => exact gw_2 145 (by decide +kernel) rfl
  | 12, _ => exact gw_2 147 (by decide +kernel) rfl
  | 13, _ => exact gw_2 149 (by decide +kernel) rfl
  | 14, _ => exact gw_2 151 (by decide +kernel) rfl
  | 15, _ => exact gw_2 153 (by decide +kernel) rfl
  | 16, _ => exact gw_2 155 (by decide +kernel) rfl
  | 17, _ => exact gw_2 157 (by decide +kernel) rfl
  | 18, _ => exact gw_2 159 (by decide +kernel) rfl
  | 19, _ => exact gw_2 161 (by decide +kernel) rfl
  | (k + 20), h => exact absurd h (by omega)
theorem inGX11 : ∀ w ∈ u_ws RX11 TX11 65, w ∈ gw := by
  intro w hw
  obtain ⟨k, hk, rfl⟩ := List.mem_map.mp hw
  have hk := List.mem_range.mp hk
  match k, hk with
  | 0, _ => exact gw_6 191 (by decide +kernel) rfl
  | 1, _ => exact gw_6 193 (by decide +kernel) rfl
  | 2, _ => exact gw_6 195 (by decide +kernel) rfl
  | 3, _ => exact gw_6 197 (by decide +kernel) rfl
  | 4, _ => exact gw_6 199 (by decide +kernel) rfl
  | 5, _ => exact gw_6 201 (by decide +kernel) rfl
  | 6, _ => exact gw_6 203 (by decide +kernel) rfl
  | 7, _ => exact gw_6 205 (by decide +kernel) rfl
  | 8, _ => exact gw_6 207 (by decide +kernel) rfl
  | 9, _ => exact gw_6 209 (by decide +kernel) rfl
  | 10, _ => exact gw_6 211 (by decide +kernel) rfl
  | 11, _ => exact gw_6 213 (by decide +kernel) rfl
  | 12, _ => exact gw_6 215 (by decide +kernel) rfl
  | 13, _ => exact gw_6 217 (by decide +kernel) rfl
  | 14, _ => exact gw_6 219 (by decide +kernel) rfl
  | 15, _ => exact gw_6 221 (by decide +kernel) rfl
  | 16, _ => exact gw_6 223 (by decide +kernel) rfl
  | 17, _ => exact gw_6 225 (by decide +kernel) rfl
  | 18, _ => exact gw_6 227 (by decide +kernel) rfl
  | 19, _ => exact gw_6 229 (by decide +kernel) rfl
  | 20, _ => exact gw_6 231 (by decide +kernel) rfl
  | 21, _ => exact gw_6 233 (by decide +kernel) rfl
  | 22, _ => exact gw_6 235 (by decide +kernel) rfl
  | 23, _ => exact gw_6 237 (by decide +kernel) rfl
  | 24, _ => exact gw_6 239 (by decide +kernel) rfl
  | 25, _ => exact gw_7 1 (by decide +kernel) rfl
  | 26, _ => exact gw_7 3 (by decide +kernel) rfl
  | 27, _ => exact gw_7 5 (by decide +kernel) rfl
  | 28, _ => exact gw_7 7 (by decide +kernel) rfl
  | 29, _ => exact gw_7 9 (by decide +kernel) rfl
  | 30, _ => exact gw_7 11 (by decide +kernel) rfl
  | 31, _ => exact gw_7 13 (by decide +kernel) rfl
  | 32, _ => exact gw_7 15 (by decide +kernel) rfl
  | 33, _ => exact gw_7 17 (by decide +kernel) rfl
  | 34, _ => exact gw_7 19 (by decide +kernel) rfl
  | 35, _ => exact gw_7 21 (by decide +kernel) rfl
  | 36, _ => exact gw_7 23 (by decide +kernel) rfl
  | 37, _ => exact gw_7 25 (by decide +kernel) rfl
  | 38, _ => exact gw_7 27 (by decide +kernel) rfl
  | 39, _ => exact gw_7 29 (by decide +kernel) rfl
  | 40, _ => exact gw_7 31 (by decide +kernel) rfl
  | 41, _ => exact gw_7 33 (by decide +kernel) rfl
  | 42, _ => exact gw_7 35 (by decide +kernel) rfl
  | 43, _ => exact gw_7 37 (by decide +kernel) rfl
  | 44, _ => exact gw_7 39 (by decide +kernel) rfl
  | 45, _ => exact gw_7 41 (by decide +kernel) rfl
  | 46, _ => exact gw_7 43 (by decide +kernel) rfl
  | 47, _ => exact gw_7 45 (by decide +kernel) rfl
  | 48, _ => exact gw_7 47 (by decide +kernel) rfl
  | 49, _ => exact gw_7 49 (by decide +kernel) rfl
  | 50, _ => exact gw_7 51 (by decide +kernel) rfl
  | 51, _ => exact gw_7 53 (by decide +kernel) rfl
  | 52, _ => exact gw_7 55 (by decide +kernel) rfl
  | 53, _ => exact gw_7 57 (by decide +kernel) rfl
  | 54, _ => exact gw_7 59 (by decide +kernel) rfl
  | 55, _ => exact gw_7 61 (by decide +kernel) rfl
  | 56, _ => exact gw_7 63 (by decide +kernel) rfl
  | 57, _ => exact gw_7 65 (by decide +kernel) rfl
  | 58, _ => exact gw_7 67 (by decide +kernel) rfl
  | 59, _ => exact gw_7 69 (by decide +kernel) rfl
  | 60, _ => exact gw_7 71 (by decide +kernel) rfl
  | 61, _ => exact gw_7 73 (by decide +kernel) rfl
  | 62, _ => exact gw_7 75 (by decide +kernel) rfl
  | 63, _ => exact gw_7 77 (by decide +kernel) rfl
  | 64, _ => exact gw_7 79 (by decide +kernel) rfl
  | (k + 65), h => exact absurd h (by omega)
theorem inGX2 : ∀ w ∈ u_ws RX2 TX2 18, w ∈ gw := by
  intro w hw
  obtain ⟨k, hk, rfl⟩ := List.mem_map.mp hw
  have hk := List.mem_range.mp hk
  match k, hk with
  | 0, _ => exact gw_1 114 (by decide +kernel) rfl
  | 1, _ => exact gw_1 116 (by decide +kernel) rfl
  | 2, _ => exact gw_1 118 (by decide +kernel) rfl
  | 3, _ => exact gw_1 120 (by decide +kernel) rfl
  | 4, _ => exact gw_1 122 (by decide +kernel) rfl
  | 5, _ => exact gw_1 124 (by decide +kernel) rfl
  | 6, _ => exact gw_1 126 (by decide +kernel) rfl
  | 7, _ => exact gw_1 128 (by decide +kernel) rfl
  | 8, _ => exact gw_1 130 (by decide +kernel) rfl
  | 9, _ => exact gw_1 132 (by decide +kernel) rfl
  | 10, _ => exact gw_1 134 (by decide +kernel) rfl
  | 11, _ => exact gw_1 136 (by decide +kernel) rfl
  | 12, _ => exact gw_1 138 (by decide +kernel) rfl
  | 13, _ => exact gw_1 140 (by decide +kernel) rfl
  | 14, _ => exact gw_1 142 (by decide +kernel) rfl
  | 15, _ => exact gw_1 144 (by decide +kernel) rfl
  | 16, _ => exact gw_1 146 (by decide +kernel) rfl
  | 17, _ => exact gw_1 148 (by decide +kernel) rfl
  | (k + 18), h => exact absurd h (by omega)
theorem inGX5 : ∀ w ∈ u_ws RX5 TX5 3, w ∈ gw := by
  intro w hw
  obtain ⟨k, hk, rfl⟩ := List.mem_map.mp hw
  have hk := List.mem_range.mp hk
  match k, hk with
  | 0, _ => exact gw_2 94 (by decide +kernel) rfl
  | 1, _ => exact gw_2 96 (by decide +kernel) rfl
  | 2, _ => exact gw_2 98 (by decide +kernel) rfl
  | (k + 3), h => exact absurd h (by omega)
theorem inGX7 : ∀ w ∈ u_ws RX7 TX7 2, w ∈ gw := by
  intro w hw
  obtain ⟨k, hk, rfl⟩ := List.mem_map.mp hw
  have hk := List.mem_range.mp hk
  match k, hk with
  | 0, _ => exact gw_1 160 (by decide +kernel) rfl
  | 1, _ => exact gw_1 162 (by decide +kernel) rfl
  | (k + 2), h => exact absurd h (by omega)
end
section
theorem dX10_areGames_0 : decode cX10_areGames 0 = .ok (.aload_n 0, 1) := by decide +kernel
theorem dX10_areGames_1 : decode cX10_areGames 1 = .ok (.iload_n 1, 1) := by decide +kernel
theorem dX10_areGames_2 : decode cX10_areGames 2 = .ok (.invokevirtual 311, 3) := by decide +kernel
theorem dX10_areGames_5 : decode cX10_areGames 5 = .ok (.ifCond .eq 48, 3) := by decide +kernel
theorem dX10_areGames_8 : decode cX10_areGames 8 = .ok (.aload_n 0, 1) := by decide +kernel
theorem dX10_areGames_9 : decode cX10_areGames 9 = .ok (.iload_n 2, 1) := by decide +kernel
theorem dX10_areGames_10 : decode cX10_areGames 10 = .ok (.invokevirtual 311, 3) := by decide +kernel
theorem dX10_areGames_13 : decode cX10_areGames 13 = .ok (.ifCond .eq 40, 3) := by decide +kernel
theorem dX10_areGames_16 : decode cX10_areGames 16 = .ok (.iload_n 3, 1) := by decide +kernel
theorem dX10_areGames_17 : decode cX10_areGames 17 = .ok (.iconst 1, 1) := by decide +kernel
theorem dX10_areGames_18 : decode cX10_areGames 18 = .ok (.if_icmp .lt 35, 3) := by decide +kernel
theorem dX10_areGames_21 : decode cX10_areGames 21 = .ok (.iload_n 3, 1) := by decide +kernel
theorem dX10_areGames_22 : decode cX10_areGames 22 = .ok (.bipush 30, 2) := by decide +kernel
theorem dX10_areGames_24 : decode cX10_areGames 24 = .ok (.if_icmp .gt 29, 3) := by decide +kernel
theorem dX10_areGames_27 : decode cX10_areGames 27 = .ok (.aload_n 0, 1) := by decide +kernel
theorem dX10_areGames_28 : decode cX10_areGames 28 = .ok (.getfield 23, 3) := by decide +kernel
theorem dX10_areGames_31 : decode cX10_areGames 31 = .ok (.getfield 277, 3) := by decide +kernel
theorem dX10_areGames_34 : decode cX10_areGames 34 = .ok (.iconst 2, 1) := by decide +kernel
theorem dX10_areGames_35 : decode cX10_areGames 35 = .ok (.if_icmp .lt 18, 3) := by decide +kernel
theorem dX10_areGames_53 : decode cX10_areGames 53 = .ok (.iconst 0, 1) := by decide +kernel
theorem dX10_areGames_54 : decode cX10_areGames 54 = .ok (.ireturn, 1) := by decide +kernel
theorem dX10_areSuch_0 : decode cX10_areSuch 0 = .ok (.aload_n 0, 1) := by decide +kernel
theorem dX10_areSuch_1 : decode cX10_areSuch 1 = .ok (.getfield 23, 3) := by decide +kernel
theorem dX10_areSuch_4 : decode cX10_areSuch 4 = .ok (.iload_n 1, 1) := by decide +kernel
theorem dX10_areSuch_5 : decode cX10_areSuch 5 = .ok (.invokevirtual 138, 3) := by decide +kernel
theorem dX10_areSuch_8 : decode cX10_areSuch 8 = .ok (.ifCond .eq 29, 3) := by decide +kernel
theorem dX10_areSuch_37 : decode cX10_areSuch 37 = .ok (.iconst 0, 1) := by decide +kernel
theorem dX10_areSuch_38 : decode cX10_areSuch 38 = .ok (.ireturn, 1) := by decide +kernel
theorem dX10_ask_0 : decode cX10_ask 0 = .ok (.aload_n 0, 1) := by decide +kernel
theorem dX10_ask_1 : decode cX10_ask 1 = .ok (.iload_n 1, 1) := by decide +kernel
theorem dX10_ask_2 : decode cX10_ask 2 = .ok (.iload_n 2, 1) := by decide +kernel
theorem dX10_ask_3 : decode cX10_ask 3 = .ok (.iload_n 3, 1) := by decide +kernel
theorem dX10_ask_4 : decode cX10_ask 4 = .ok (.invokevirtual 215, 3) := by decide +kernel
theorem dX10_ask_7 : decode cX10_ask 7 = .ok (.ifCond .eq 14, 3) := by decide +kernel
theorem dX10_ask_21 : decode cX10_ask 21 = .ok (.iconst (-1), 1) := by decide +kernel
theorem dX10_ask_22 : decode cX10_ask 22 = .ok (.ireturn, 1) := by decide +kernel
theorem dX10_asked_0 : decode cX10_asked 0 = .ok (.iload_n 1, 1) := by decide +kernel
theorem dX10_asked_1 : decode cX10_asked 1 = .ok (.ifCond .lt 18, 3) := by decide +kernel
theorem dX10_asked_4 : decode cX10_asked 4 = .ok (.iload_n 1, 1) := by decide +kernel
theorem dX10_asked_5 : decode cX10_asked 5 = .ok (.bipush 8, 2) := by decide +kernel
theorem dX10_asked_7 : decode cX10_asked 7 = .ok (.if_icmp .ge 12, 3) := by decide +kernel
theorem dX10_asked_10 : decode cX10_asked 10 = .ok (.aload_n 0, 1) := by decide +kernel
theorem dX10_asked_11 : decode cX10_asked 11 = .ok (.getfield 82, 3) := by decide +kernel
theorem dX10_asked_14 : decode cX10_asked 14 = .ok (.iload_n 1, 1) := by decide +kernel
theorem dX10_asked_15 : decode cX10_asked 15 = .ok (.iaload, 1) := by decide +kernel
theorem dX10_asked_16 : decode cX10_asked 16 = .ok (.goto 4, 3) := by decide +kernel
theorem dX10_asked_19 : decode cX10_asked 19 = .ok (.iconst (-1), 1) := by decide +kernel
theorem dX10_asked_20 : decode cX10_asked 20 = .ok (.ireturn, 1) := by decide +kernel
theorem dX10_bent_0 : decode cX10_bent 0 = .ok (.aload_n 0, 1) := by decide +kernel
theorem dX10_bent_1 : decode cX10_bent 1 = .ok (.getfield 23, 3) := by decide +kernel
theorem dX10_bent_4 : decode cX10_bent 4 = .ok (.iload_n 1, 1) := by decide +kernel
theorem dX10_bent_5 : decode cX10_bent 5 = .ok (.invokevirtual 138, 3) := by decide +kernel
theorem dX10_bent_8 : decode cX10_bent 8 = .ok (.ifCond .eq 23, 3) := by decide +kernel
theorem dX10_bent_31 : decode cX10_bent 31 = .ok (.iconst (-1), 1) := by decide +kernel
theorem dX10_bent_32 : decode cX10_bent 32 = .ok (.ireturn, 1) := by decide +kernel
theorem dX10_book_0 : decode cX10_book 0 = .ok (.aload_n 0, 1) := by decide +kernel
theorem dX10_book_1 : decode cX10_book 1 = .ok (.getfield 23, 3) := by decide +kernel
theorem dX10_book_4 : decode cX10_book 4 = .ok (.iload_n 1, 1) := by decide +kernel
theorem dX10_book_5 : decode cX10_book 5 = .ok (.invokevirtual 142, 3) := by decide +kernel
theorem dX10_book_8 : decode cX10_book 8 = .ok (.ifCond .eq 15, 3) := by decide +kernel
theorem dX10_book_23 : decode cX10_book 23 = .ok (.iconst (-1), 1) := by decide +kernel
theorem dX10_book_24 : decode cX10_book 24 = .ok (.ireturn, 1) := by decide +kernel
theorem dX10_can_0 : decode cX10_can 0 = .ok (.aload_n 0, 1) := by decide +kernel
theorem dX10_can_1 : decode cX10_can 1 = .ok (.getfield 23, 3) := by decide +kernel
theorem dX10_can_4 : decode cX10_can 4 = .ok (.iload_n 1, 1) := by decide +kernel
theorem dX10_can_5 : decode cX10_can 5 = .ok (.invokevirtual 138, 3) := by decide +kernel
theorem dX10_can_8 : decode cX10_can 8 = .ok (.ifCond .eq 29, 3) := by decide +kernel
theorem dX10_can_37 : decode cX10_can 37 = .ok (.iconst (-1), 1) := by decide +kernel
theorem dX10_can_38 : decode cX10_can 38 = .ok (.ireturn, 1) := by decide +kernel
theorem dX10_count_0 : decode cX10_count 0 = .ok (.iload_n 1, 1) := by decide +kernel
theorem dX10_count_1 : decode cX10_count 1 = .ok (.tableswitch 80 0 4 #[35, 43, 51, 67, 75], 35) := by decide +kernel
theorem dX10_count_36 : decode cX10_count 36 = .ok (.aload_n 0, 1) := by decide +kernel
theorem dX10_count_37 : decode cX10_count 37 = .ok (.getfield 23, 3) := by decide +kernel
theorem dX10_count_40 : decode cX10_count 40 = .ok (.getfield 284, 3) := by decide +kernel
theorem dX10_count_43 : decode cX10_count 43 = .ok (.ireturn, 1) := by decide +kernel
theorem dX10_count_44 : decode cX10_count 44 = .ok (.aload_n 0, 1) := by decide +kernel
theorem dX10_count_45 : decode cX10_count 45 = .ok (.getfield 23, 3) := by decide +kernel
theorem dX10_count_48 : decode cX10_count 48 = .ok (.getfield 277, 3) := by decide +kernel
theorem dX10_count_51 : decode cX10_count 51 = .ok (.ireturn, 1) := by decide +kernel
theorem dX10_count_52 : decode cX10_count 52 = .ok (.aload_n 0, 1) := by decide +kernel
theorem dX10_count_53 : decode cX10_count 53 = .ok (.getfield 23, 3) := by decide +kernel
theorem dX10_count_56 : decode cX10_count 56 = .ok (.getfield 358, 3) := by decide +kernel
theorem dX10_count_59 : decode cX10_count 59 = .ok (.ifCond .eq 7, 3) := by decide +kernel
theorem dX10_count_66 : decode cX10_count 66 = .ok (.iconst 0, 1) := by decide +kernel
theorem dX10_count_67 : decode cX10_count 67 = .ok (.ireturn, 1) := by decide +kernel
theorem dX10_count_68 : decode cX10_count 68 = .ok (.aload_n 0, 1) := by decide +kernel
theorem dX10_count_69 : decode cX10_count 69 = .ok (.getfield 23, 3) := by decide +kernel
theorem dX10_count_72 : decode cX10_count 72 = .ok (.getfield 362, 3) := by decide +kernel
theorem dX10_count_75 : decode cX10_count 75 = .ok (.ireturn, 1) := by decide +kernel
theorem dX10_count_76 : decode cX10_count 76 = .ok (.aload_n 0, 1) := by decide +kernel
theorem dX10_count_77 : decode cX10_count 77 = .ok (.getfield 13, 3) := by decide +kernel
theorem dX10_count_80 : decode cX10_count 80 = .ok (.ireturn, 1) := by decide +kernel
theorem dX10_count_81 : decode cX10_count 81 = .ok (.iconst (-1), 1) := by decide +kernel
theorem dX10_count_82 : decode cX10_count 82 = .ok (.ireturn, 1) := by decide +kernel
theorem dX10_deal_0 : decode cX10_deal 0 = .ok (.iload_n 1, 1) := by decide +kernel
theorem dX10_deal_1 : decode cX10_deal 1 = .ok (.iconst 1, 1) := by decide +kernel
theorem dX10_deal_2 : decode cX10_deal 2 = .ok (.if_icmp .lt 20, 3) := by decide +kernel
theorem dX10_deal_5 : decode cX10_deal 5 = .ok (.iload_n 1, 1) := by decide +kernel
theorem dX10_deal_6 : decode cX10_deal 6 = .ok (.bipush 9, 2) := by decide +kernel
theorem dX10_deal_8 : decode cX10_deal 8 = .ok (.if_icmp .gt 14, 3) := by decide +kernel
theorem dX10_deal_11 : decode cX10_deal 11 = .ok (.aload_n 0, 1) := by decide +kernel
theorem dX10_deal_12 : decode cX10_deal 12 = .ok (.getfield 23, 3) := by decide +kernel
theorem dX10_deal_15 : decode cX10_deal 15 = .ok (.iload_n 1, 1) := by decide +kernel
theorem dX10_deal_16 : decode cX10_deal 16 = .ok (.invokevirtual 320, 3) := by decide +kernel
theorem dX10_deal_19 : decode cX10_deal 19 = .ok (.ifCond .ne 5, 3) := by decide +kernel
theorem dX10_deal_22 : decode cX10_deal 22 = .ok (.iconst 0, 1) := by decide +kernel
theorem dX10_deal_23 : decode cX10_deal 23 = .ok (.ireturn, 1) := by decide +kernel
theorem dX10_end_0 : decode cX10_end 0 = .ok (.iload_n 1, 1) := by decide +kernel
theorem dX10_end_1 : decode cX10_end 1 = .ok (.ifCond .lt 11, 3) := by decide +kernel
theorem dX10_end_4 : decode cX10_end 4 = .ok (.iload_n 1, 1) := by decide +kernel
theorem dX10_end_5 : decode cX10_end 5 = .ok (.aload_n 0, 1) := by decide +kernel
theorem dX10_end_6 : decode cX10_end 6 = .ok (.getfield 13, 3) := by decide +kernel
theorem dX10_end_9 : decode cX10_end 9 = .ok (.if_icmp .le 5, 3) := by decide +kernel
theorem dX10_end_12 : decode cX10_end 12 = .ok (.iconst 0, 1) := by decide +kernel
theorem dX10_end_13 : decode cX10_end 13 = .ok (.ireturn, 1) := by decide +kernel
theorem dX10_end_14 : decode cX10_end 14 = .ok (.aload_n 0, 1) := by decide +kernel
theorem dX10_end_15 : decode cX10_end 15 = .ok (.iload_n 1, 1) := by decide +kernel
theorem dX10_end_16 : decode cX10_end 16 = .ok (.putfield 13, 3) := by decide +kernel
theorem dX10_end_19 : decode cX10_end 19 = .ok (.iconst 1, 1) := by decide +kernel
theorem dX10_end_20 : decode cX10_end 20 = .ok (.ireturn, 1) := by decide +kernel
theorem dX10_fault_0 : decode cX10_fault 0 = .ok (.aload_n 0, 1) := by decide +kernel
theorem dX10_fault_1 : decode cX10_fault 1 = .ok (.getfield 17, 3) := by decide +kernel
theorem dX10_fault_4 : decode cX10_fault 4 = .ok (.ireturn, 1) := by decide +kernel
theorem dX10_first_0 : decode cX10_first 0 = .ok (.aload_n 0, 1) := by decide +kernel
theorem dX10_first_1 : decode cX10_first 1 = .ok (.invokevirtual 294, 3) := by decide +kernel
theorem dX10_first_4 : decode cX10_first 4 = .ok (.ifCond .eq 17, 3) := by decide +kernel
theorem dX10_first_21 : decode cX10_first 21 = .ok (.iconst (-1), 1) := by decide +kernel
theorem dX10_first_22 : decode cX10_first 22 = .ok (.ireturn, 1) := by decide +kernel
theorem dX10_gains_0 : decode cX10_gains 0 = .ok (.aload_n 0, 1) := by decide +kernel
theorem dX10_gains_1 : decode cX10_gains 1 = .ok (.getfield 23, 3) := by decide +kernel
theorem dX10_gains_4 : decode cX10_gains 4 = .ok (.iload_n 1, 1) := by decide +kernel
theorem dX10_gains_5 : decode cX10_gains 5 = .ok (.invokevirtual 138, 3) := by decide +kernel
theorem dX10_gains_8 : decode cX10_gains 8 = .ok (.ifCond .ne 5, 3) := by decide +kernel
theorem dX10_gains_11 : decode cX10_gains 11 = .ok (.iconst (-1), 1) := by decide +kernel
theorem dX10_gains_12 : decode cX10_gains 12 = .ok (.ireturn, 1) := by decide +kernel
theorem dX10_games_0 : decode cX10_games 0 = .ok (.aload_n 0, 1) := by decide +kernel
theorem dX10_games_1 : decode cX10_games 1 = .ok (.iload_n 1, 1) := by decide +kernel
theorem dX10_games_2 : decode cX10_games 2 = .ok (.iload_n 2, 1) := by decide +kernel
theorem dX10_games_3 : decode cX10_games 3 = .ok (.iload_n 3, 1) := by decide +kernel
theorem dX10_games_4 : decode cX10_games 4 = .ok (.invokevirtual 326, 3) := by decide +kernel
theorem dX10_games_7 : decode cX10_games 7 = .ok (.ifCond .eq 16, 3) := by decide +kernel
theorem dX10_games_23 : decode cX10_games 23 = .ok (.iconst (-1), 1) := by decide +kernel
theorem dX10_games_24 : decode cX10_games 24 = .ok (.ireturn, 1) := by decide +kernel
theorem dX10_heap_0 : decode cX10_heap 0 = .ok (.iload_n 1, 1) := by decide +kernel
theorem dX10_heap_1 : decode cX10_heap 1 = .ok (.ifCond .lt 34, 3) := by decide +kernel
theorem dX10_heap_4 : decode cX10_heap 4 = .ok (.iload_n 1, 1) := by decide +kernel
theorem dX10_heap_5 : decode cX10_heap 5 = .ok (.aload_n 0, 1) := by decide +kernel
theorem dX10_heap_6 : decode cX10_heap 6 = .ok (.getfield 23, 3) := by decide +kernel
theorem dX10_heap_9 : decode cX10_heap 9 = .ok (.invokevirtual 190, 3) := by decide +kernel
theorem dX10_heap_12 : decode cX10_heap 12 = .ok (.if_icmp .ge 23, 3) := by decide +kernel
theorem dX10_heap_35 : decode cX10_heap 35 = .ok (.iconst (-1), 1) := by decide +kernel
theorem dX10_heap_36 : decode cX10_heap 36 = .ok (.ireturn, 1) := by decide +kernel
theorem dX10_heard_0 : decode cX10_heard 0 = .ok (.iload_n 1, 1) := by decide +kernel
theorem dX10_heard_1 : decode cX10_heard 1 = .ok (.ifCond .lt 21, 3) := by decide +kernel
theorem dX10_heard_4 : decode cX10_heard 4 = .ok (.iload_n 1, 1) := by decide +kernel
theorem dX10_heard_5 : decode cX10_heard 5 = .ok (.aload_n 0, 1) := by decide +kernel
theorem dX10_heard_6 : decode cX10_heard 6 = .ok (.getfield 89, 3) := by decide +kernel
theorem dX10_heard_9 : decode cX10_heard 9 = .ok (.arraylength, 1) := by decide +kernel
theorem dX10_heard_10 : decode cX10_heard 10 = .ok (.if_icmp .ge 12, 3) := by decide +kernel
theorem dX10_heard_13 : decode cX10_heard 13 = .ok (.aload_n 0, 1) := by decide +kernel
theorem dX10_heard_14 : decode cX10_heard 14 = .ok (.getfield 89, 3) := by decide +kernel
theorem dX10_heard_17 : decode cX10_heard 17 = .ok (.iload_n 1, 1) := by decide +kernel
theorem dX10_heard_18 : decode cX10_heard 18 = .ok (.iaload, 1) := by decide +kernel
theorem dX10_heard_19 : decode cX10_heard 19 = .ok (.goto 4, 3) := by decide +kernel
theorem dX10_heard_22 : decode cX10_heard 22 = .ok (.iconst (-1), 1) := by decide +kernel
theorem dX10_heard_23 : decode cX10_heard 23 = .ok (.ireturn, 1) := by decide +kernel
theorem dX10_isOpen_0 : decode cX10_isOpen 0 = .ok (.aload_n 0, 1) := by decide +kernel
theorem dX10_isOpen_1 : decode cX10_isOpen 1 = .ok (.getfield 23, 3) := by decide +kernel
theorem dX10_isOpen_4 : decode cX10_isOpen 4 = .ok (.getfield 277, 3) := by decide +kernel
theorem dX10_isOpen_7 : decode cX10_isOpen 7 = .ok (.iconst 2, 1) := by decide +kernel
theorem dX10_isOpen_8 : decode cX10_isOpen 8 = .ok (.if_icmp .ne 46, 3) := by decide +kernel
theorem dX10_isOpen_54 : decode cX10_isOpen 54 = .ok (.iconst 0, 1) := by decide +kernel
theorem dX10_isOpen_55 : decode cX10_isOpen 55 = .ok (.ireturn, 1) := by decide +kernel
theorem dX10_isRule_0 : decode cX10_isRule 0 = .ok (.iload_n 1, 1) := by decide +kernel
theorem dX10_isRule_1 : decode cX10_isRule 1 = .ok (.ifCond .lt 12, 3) := by decide +kernel
theorem dX10_isRule_4 : decode cX10_isRule 4 = .ok (.iload_n 1, 1) := by decide +kernel
theorem dX10_isRule_5 : decode cX10_isRule 5 = .ok (.iconst 4, 1) := by decide +kernel
theorem dX10_isRule_6 : decode cX10_isRule 6 = .ok (.if_icmp .ge 7, 3) := by decide +kernel
theorem dX10_isRule_9 : decode cX10_isRule 9 = .ok (.iconst 1, 1) := by decide +kernel
theorem dX10_isRule_10 : decode cX10_isRule 10 = .ok (.goto 4, 3) := by decide +kernel
theorem dX10_isRule_13 : decode cX10_isRule 13 = .ok (.iconst 0, 1) := by decide +kernel
theorem dX10_isRule_14 : decode cX10_isRule 14 = .ok (.ireturn, 1) := by decide +kernel
theorem dX10_known_0 : decode cX10_known 0 = .ok (.aload_n 0, 1) := by decide +kernel
theorem dX10_known_1 : decode cX10_known 1 = .ok (.getfield 23, 3) := by decide +kernel
theorem dX10_known_4 : decode cX10_known 4 = .ok (.iload_n 1, 1) := by decide +kernel
theorem dX10_known_5 : decode cX10_known 5 = .ok (.invokevirtual 138, 3) := by decide +kernel
theorem dX10_known_8 : decode cX10_known 8 = .ok (.ifCond .eq 29, 3) := by decide +kernel
theorem dX10_known_37 : decode cX10_known 37 = .ok (.iconst (-1), 1) := by decide +kernel
theorem dX10_known_38 : decode cX10_known 38 = .ok (.ireturn, 1) := by decide +kernel
theorem dX10_leader_0 : decode cX10_leader 0 = .ok (.iconst (-1), 1) := by decide +kernel
theorem dX10_leader_1 : decode cX10_leader 1 = .ok (.istore_n 1, 1) := by decide +kernel
theorem dX10_leader_2 : decode cX10_leader 2 = .ok (.iconst (-1), 1) := by decide +kernel
theorem dX10_leader_3 : decode cX10_leader 3 = .ok (.istore_n 2, 1) := by decide +kernel
theorem dX10_leader_4 : decode cX10_leader 4 = .ok (.iconst 0, 1) := by decide +kernel
theorem dX10_leader_5 : decode cX10_leader 5 = .ok (.istore_n 3, 1) := by decide +kernel
theorem dX10_leader_6 : decode cX10_leader 6 = .ok (.iload_n 3, 1) := by decide +kernel
theorem dX10_leader_7 : decode cX10_leader 7 = .ok (.aload_n 0, 1) := by decide +kernel
theorem dX10_leader_8 : decode cX10_leader 8 = .ok (.getfield 23, 3) := by decide +kernel
theorem dX10_leader_11 : decode cX10_leader 11 = .ok (.getfield 277, 3) := by decide +kernel
theorem dX10_leader_14 : decode cX10_leader 14 = .ok (.if_icmp .ge 30, 3) := by decide +kernel
theorem dX10_leader_44 : decode cX10_leader 44 = .ok (.iload_n 1, 1) := by decide +kernel
theorem dX10_leader_45 : decode cX10_leader 45 = .ok (.ireturn, 1) := by decide +kernel
theorem dX10_length_0 : decode cX10_length 0 = .ok (.aload_n 0, 1) := by decide +kernel
theorem dX10_length_1 : decode cX10_length 1 = .ok (.iload_n 1, 1) := by decide +kernel
theorem dX10_length_2 : decode cX10_length 2 = .ok (.iload_n 2, 1) := by decide +kernel
theorem dX10_length_3 : decode cX10_length 3 = .ok (.iload_n 3, 1) := by decide +kernel
theorem dX10_length_4 : decode cX10_length 4 = .ok (.invokevirtual 326, 3) := by decide +kernel
theorem dX10_length_7 : decode cX10_length 7 = .ok (.ifCond .eq 16, 3) := by decide +kernel
theorem dX10_length_23 : decode cX10_length 23 = .ok (.iconst (-1), 1) := by decide +kernel
theorem dX10_length_24 : decode cX10_length 24 = .ok (.ireturn, 1) := by decide +kernel
theorem dX10_now_0 : decode cX10_now 0 = .ok (.iload_n 1, 1) := by decide +kernel
theorem dX10_now_1 : decode cX10_now 1 = .ok (.tableswitch 87 0 5 #[39, 47, 55, 63, 71, 79], 39) := by decide +kernel
theorem dX10_now_40 : decode cX10_now 40 = .ok (.aload_n 0, 1) := by decide +kernel
theorem dX10_now_41 : decode cX10_now 41 = .ok (.getfield 23, 3) := by decide +kernel
theorem dX10_now_44 : decode cX10_now 44 = .ok (.getfield 200, 3) := by decide +kernel
theorem dX10_now_47 : decode cX10_now 47 = .ok (.ireturn, 1) := by decide +kernel
theorem dX10_now_48 : decode cX10_now 48 = .ok (.aload_n 0, 1) := by decide +kernel
theorem dX10_now_49 : decode cX10_now 49 = .ok (.getfield 23, 3) := by decide +kernel
theorem dX10_now_52 : decode cX10_now 52 = .ok (.invokevirtual 190, 3) := by decide +kernel
theorem dX10_now_55 : decode cX10_now 55 = .ok (.ireturn, 1) := by decide +kernel
theorem dX10_now_56 : decode cX10_now 56 = .ok (.aload_n 0, 1) := by decide +kernel
theorem dX10_now_57 : decode cX10_now 57 = .ok (.getfield 23, 3) := by decide +kernel
theorem dX10_now_60 : decode cX10_now 60 = .ok (.getfield 203, 3) := by decide +kernel
theorem dX10_now_63 : decode cX10_now 63 = .ok (.ireturn, 1) := by decide +kernel
theorem dX10_now_64 : decode cX10_now 64 = .ok (.aload_n 0, 1) := by decide +kernel
theorem dX10_now_65 : decode cX10_now 65 = .ok (.getfield 23, 3) := by decide +kernel
theorem dX10_now_68 : decode cX10_now 68 = .ok (.invokevirtual 206, 3) := by decide +kernel
theorem dX10_now_71 : decode cX10_now 71 = .ok (.ireturn, 1) := by decide +kernel
theorem dX10_now_72 : decode cX10_now 72 = .ok (.aload_n 0, 1) := by decide +kernel
theorem dX10_now_73 : decode cX10_now 73 = .ok (.getfield 23, 3) := by decide +kernel
theorem dX10_now_76 : decode cX10_now 76 = .ok (.getfield 209, 3) := by decide +kernel
theorem dX10_now_79 : decode cX10_now 79 = .ok (.ireturn, 1) := by decide +kernel
theorem dX10_now_80 : decode cX10_now 80 = .ok (.aload_n 0, 1) := by decide +kernel
theorem dX10_now_81 : decode cX10_now 81 = .ok (.getfield 23, 3) := by decide +kernel
theorem dX10_now_84 : decode cX10_now 84 = .ok (.invokevirtual 212, 3) := by decide +kernel
theorem dX10_now_87 : decode cX10_now 87 = .ok (.ireturn, 1) := by decide +kernel
theorem dX10_now_88 : decode cX10_now 88 = .ok (.iconst (-1), 1) := by decide +kernel
theorem dX10_now_89 : decode cX10_now 89 = .ok (.ireturn, 1) := by decide +kernel
theorem dX10_open_0 : decode cX10_open 0 = .ok (.aload_n 0, 1) := by decide +kernel
theorem dX10_open_1 : decode cX10_open 1 = .ok (.invokevirtual 294, 3) := by decide +kernel
theorem dX10_open_4 : decode cX10_open 4 = .ok (.ifCond .eq 17, 3) := by decide +kernel
theorem dX10_open_21 : decode cX10_open 21 = .ok (.bipush (-101), 2) := by decide +kernel
theorem dX10_open_23 : decode cX10_open 23 = .ok (.ireturn, 1) := by decide +kernel
theorem dX10_person_0 : decode cX10_person 0 = .ok (.aload_n 0, 1) := by decide +kernel
theorem dX10_person_1 : decode cX10_person 1 = .ok (.getfield 23, 3) := by decide +kernel
theorem dX10_person_4 : decode cX10_person 4 = .ok (.iload_n 1, 1) := by decide +kernel
theorem dX10_person_5 : decode cX10_person 5 = .ok (.invokevirtual 138, 3) := by decide +kernel
theorem dX10_person_8 : decode cX10_person 8 = .ok (.ifCond .ne 5, 3) := by decide +kernel
theorem dX10_person_11 : decode cX10_person 11 = .ok (.iconst (-1), 1) := by decide +kernel
theorem dX10_person_12 : decode cX10_person 12 = .ok (.ireturn, 1) := by decide +kernel
theorem dX10_reply_0 : decode cX10_reply 0 = .ok (.aload_n 0, 1) := by decide +kernel
theorem dX10_reply_1 : decode cX10_reply 1 = .ok (.iconst 0, 1) := by decide +kernel
theorem dX10_reply_2 : decode cX10_reply 2 = .ok (.iload_n 1, 1) := by decide +kernel
theorem dX10_reply_3 : decode cX10_reply 3 = .ok (.iload_n 2, 1) := by decide +kernel
theorem dX10_reply_4 : decode cX10_reply 4 = .ok (.invokevirtual 326, 3) := by decide +kernel
theorem dX10_reply_7 : decode cX10_reply 7 = .ok (.ifCond .ne 5, 3) := by decide +kernel
theorem dX10_reply_10 : decode cX10_reply 10 = .ok (.iconst (-1), 1) := by decide +kernel
theorem dX10_reply_11 : decode cX10_reply 11 = .ok (.ireturn, 1) := by decide +kernel
theorem dX10_restore_0 : decode cX10_restore 0 = .ok (.iload_n 1, 1) := by decide +kernel
theorem dX10_restore_1 : decode cX10_restore 1 = .ok (.ifCond .lt 26, 3) := by decide +kernel
theorem dX10_restore_4 : decode cX10_restore 4 = .ok (.iload_n 1, 1) := by decide +kernel
theorem dX10_restore_5 : decode cX10_restore 5 = .ok (.iconst 2, 1) := by decide +kernel
theorem dX10_restore_6 : decode cX10_restore 6 = .ok (.if_icmp .ge 21, 3) := by decide +kernel
theorem dX10_restore_9 : decode cX10_restore 9 = .ok (.aload_n 0, 1) := by decide +kernel
theorem dX10_restore_10 : decode cX10_restore 10 = .ok (.getfield 74, 3) := by decide +kernel
theorem dX10_restore_13 : decode cX10_restore 13 = .ok (.iload_n 1, 1) := by decide +kernel
theorem dX10_restore_14 : decode cX10_restore 14 = .ok (.aaload, 1) := by decide +kernel
theorem dX10_restore_15 : decode cX10_restore 15 = .ok (.ifnull 12, 3) := by decide +kernel
theorem dX10_restore_27 : decode cX10_restore 27 = .ok (.iconst 0, 1) := by decide +kernel
theorem dX10_restore_28 : decode cX10_restore 28 = .ok (.ireturn, 1) := by decide +kernel
theorem dX10_said_0 : decode cX10_said 0 = .ok (.aload_n 0, 1) := by decide +kernel
theorem dX10_said_1 : decode cX10_said 1 = .ok (.getfield 33, 3) := by decide +kernel
theorem dX10_said_4 : decode cX10_said 4 = .ok (.getfield 354, 3) := by decide +kernel
theorem dX10_said_7 : decode cX10_said 7 = .ok (.ifCond .eq 8, 3) := by decide +kernel
theorem dX10_said_15 : decode cX10_said 15 = .ok (.iconst (-1), 1) := by decide +kernel
theorem dX10_said_16 : decode cX10_said 16 = .ok (.ireturn, 1) := by decide +kernel
theorem dX10_sweep_0 : decode cX10_sweep 0 = .ok (.aload_n 0, 1) := by decide +kernel
theorem dX10_sweep_1 : decode cX10_sweep 1 = .ok (.getfield 23, 3) := by decide +kernel
theorem dX10_sweep_4 : decode cX10_sweep 4 = .ok (.iload_n 1, 1) := by decide +kernel
theorem dX10_sweep_5 : decode cX10_sweep 5 = .ok (.invokevirtual 138, 3) := by decide +kernel
theorem dX10_sweep_8 : decode cX10_sweep 8 = .ok (.ifCond .ne 5, 3) := by decide +kernel
theorem dX10_sweep_11 : decode cX10_sweep 11 = .ok (.iconst (-1), 1) := by decide +kernel
theorem dX10_sweep_12 : decode cX10_sweep 12 = .ok (.ireturn, 1) := by decide +kernel
theorem dX10_swept_0 : decode cX10_swept 0 = .ok (.iload_n 1, 1) := by decide +kernel
theorem dX10_swept_1 : decode cX10_swept 1 = .ok (.ifCond .lt 20, 3) := by decide +kernel
theorem dX10_swept_4 : decode cX10_swept 4 = .ok (.iload_n 1, 1) := by decide +kernel
theorem dX10_swept_5 : decode cX10_swept 5 = .ok (.aload_n 0, 1) := by decide +kernel
theorem dX10_swept_6 : decode cX10_swept 6 = .ok (.getfield 95, 3) := by decide +kernel
theorem dX10_swept_9 : decode cX10_swept 9 = .ok (.if_icmp .ge 12, 3) := by decide +kernel
theorem dX10_swept_21 : decode cX10_swept 21 = .ok (.iconst (-1), 1) := by decide +kernel
theorem dX10_swept_22 : decode cX10_swept 22 = .ok (.ireturn, 1) := by decide +kernel
theorem dX10_undo_0 : decode cX10_undo 0 = .ok (.aload_n 0, 1) := by decide +kernel
theorem dX10_undo_1 : decode cX10_undo 1 = .ok (.getfield 70, 3) := by decide +kernel
theorem dX10_undo_4 : decode cX10_undo 4 = .ok (.aload_n 0, 1) := by decide +kernel
theorem dX10_undo_5 : decode cX10_undo 5 = .ok (.getfield 23, 3) := by decide +kernel
theorem dX10_undo_8 : decode cX10_undo 8 = .ok (.invokevirtual 230, 3) := by decide +kernel
theorem dX10_undo_11 : decode cX10_undo 11 = .ok (.ifCond .eq 13, 3) := by decide +kernel
theorem dX10_undo_24 : decode cX10_undo 24 = .ok (.iconst (-1), 1) := by decide +kernel
theorem dX10_undo_25 : decode cX10_undo 25 = .ok (.ireturn, 1) := by decide +kernel
theorem dX10_whom_0 : decode cX10_whom 0 = .ok (.aload_n 0, 1) := by decide +kernel
theorem dX10_whom_1 : decode cX10_whom 1 = .ok (.getfield 23, 3) := by decide +kernel
theorem dX10_whom_4 : decode cX10_whom 4 = .ok (.iload_n 1, 1) := by decide +kernel
theorem dX10_whom_5 : decode cX10_whom 5 = .ok (.invokevirtual 138, 3) := by decide +kernel
theorem dX10_whom_8 : decode cX10_whom 8 = .ok (.ifCond .eq 26, 3) := by decide +kernel
theorem dX10_whom_34 : decode cX10_whom 34 = .ok (.iconst (-1), 1) := by decide +kernel
theorem dX10_whom_35 : decode cX10_whom 35 = .ok (.ireturn, 1) := by decide +kernel
theorem dX10_why_0 : decode cX10_why 0 = .ok (.aload_n 0, 1) := by decide +kernel
theorem dX10_why_1 : decode cX10_why 1 = .ok (.iload_n 1, 1) := by decide +kernel
theorem dX10_why_2 : decode cX10_why 2 = .ok (.iload_n 2, 1) := by decide +kernel
theorem dX10_why_3 : decode cX10_why 3 = .ok (.iload_n 3, 1) := by decide +kernel
theorem dX10_why_4 : decode cX10_why 4 = .ok (.invokevirtual 215, 3) := by decide +kernel
theorem dX10_why_7 : decode cX10_why 7 = .ok (.ifCond .eq 16, 3) := by decide +kernel
theorem dX10_why_23 : decode cX10_why 23 = .ok (.iconst (-1), 1) := by decide +kernel
theorem dX10_why_24 : decode cX10_why 24 = .ok (.ireturn, 1) := by decide +kernel
theorem dX11_allBooks_0 : decode cX11_allBooks 0 = .ok (.iconst 0, 1) := by decide +kernel
theorem dX11_allBooks_1 : decode cX11_allBooks 1 = .ok (.istore_n 1, 1) := by decide +kernel
theorem dX11_allBooks_2 : decode cX11_allBooks 2 = .ok (.iconst 0, 1) := by decide +kernel
theorem dX11_allBooks_3 : decode cX11_allBooks 3 = .ok (.istore_n 2, 1) := by decide +kernel
theorem dX11_allBooks_4 : decode cX11_allBooks 4 = .ok (.iload_n 2, 1) := by decide +kernel
theorem dX11_allBooks_5 : decode cX11_allBooks 5 = .ok (.bipush 13, 2) := by decide +kernel
theorem dX11_allBooks_7 : decode cX11_allBooks 7 = .ok (.if_icmp .ge 30, 3) := by decide +kernel
theorem dX11_allBooks_10 : decode cX11_allBooks 10 = .ok (.iload_n 1, 1) := by decide +kernel
theorem dX11_allBooks_11 : decode cX11_allBooks 11 = .ok (.aload_n 0, 1) := by decide +kernel
theorem dX11_allBooks_12 : decode cX11_allBooks 12 = .ok (.getfield 33, 3) := by decide +kernel
theorem dX11_allBooks_15 : decode cX11_allBooks 15 = .ok (.sipush 138, 3) := by decide +kernel
theorem dX11_allBooks_18 : decode cX11_allBooks 18 = .ok (.iload_n 2, 1) := by decide +kernel
theorem dX11_allBooks_19 : decode cX11_allBooks 19 = .ok (.iadd, 1) := by decide +kernel
theorem dX11_allBooks_20 : decode cX11_allBooks 20 = .ok (.iaload, 1) := by decide +kernel
theorem dX11_allBooks_21 : decode cX11_allBooks 21 = .ok (.ifCond .le 7, 3) := by decide +kernel
theorem dX11_allBooks_28 : decode cX11_allBooks 28 = .ok (.iconst 0, 1) := by decide +kernel
theorem dX11_allBooks_29 : decode cX11_allBooks 29 = .ok (.iadd, 1) := by decide +kernel
theorem dX11_allBooks_30 : decode cX11_allBooks 30 = .ok (.istore_n 1, 1) := by decide +kernel
theorem dX11_allBooks_31 : decode cX11_allBooks 31 = .ok (.iinc 2 1, 3) := by decide +kernel
theorem dX11_allBooks_34 : decode cX11_allBooks 34 = .ok (.goto (-30), 3) := by decide +kernel
theorem dX11_allBooks_37 : decode cX11_allBooks 37 = .ok (.iload_n 1, 1) := by decide +kernel
theorem dX11_allBooks_38 : decode cX11_allBooks 38 = .ok (.ireturn, 1) := by decide +kernel
theorem dX11_areAsked_0 : decode cX11_areAsked 0 = .ok (.aload_n 0, 1) := by decide +kernel
theorem dX11_areAsked_1 : decode cX11_areAsked 1 = .ok (.iload_n 1, 1) := by decide +kernel
theorem dX11_areAsked_2 : decode cX11_areAsked 2 = .ok (.invokevirtual 282, 3) := by decide +kernel
theorem dX11_areAsked_5 : decode cX11_areAsked 5 = .ok (.ifCond .eq 23, 3) := by decide +kernel
theorem dX11_areAsked_28 : decode cX11_areAsked 28 = .ok (.iconst 0, 1) := by decide +kernel
theorem dX11_areAsked_29 : decode cX11_areAsked 29 = .ok (.ireturn, 1) := by decide +kernel
theorem dX11_areGames_0 : decode cX11_areGames 0 = .ok (.iload_n 1, 1) := by decide +kernel
theorem dX11_areGames_1 : decode cX11_areGames 1 = .ok (.iconst 0, 1) := by decide +kernel
theorem dX11_areGames_2 : decode cX11_areGames 2 = .ok (.iconst 3, 1) := by decide +kernel
theorem dX11_areGames_3 : decode cX11_areGames 3 = .ok (.invokestatic 195, 3) := by decide +kernel
theorem dX11_areGames_6 : decode cX11_areGames 6 = .ok (.ifCond .eq 55, 3) := by decide +kernel
theorem dX11_areGames_9 : decode cX11_areGames 9 = .ok (.iload_n 2, 1) := by decide +kernel
theorem dX11_areGames_10 : decode cX11_areGames 10 = .ok (.iconst 0, 1) := by decide +kernel
theorem dX11_areGames_11 : decode cX11_areGames 11 = .ok (.iconst 3, 1) := by decide +kernel
theorem dX11_areGames_12 : decode cX11_areGames 12 = .ok (.invokestatic 195, 3) := by decide +kernel
theorem dX11_areGames_15 : decode cX11_areGames 15 = .ok (.ifCond .eq 46, 3) := by decide +kernel
theorem dX11_areGames_18 : decode cX11_areGames 18 = .ok (.iload_n 3, 1) := by decide +kernel
theorem dX11_areGames_19 : decode cX11_areGames 19 = .ok (.iconst 1, 1) := by decide +kernel
theorem dX11_areGames_20 : decode cX11_areGames 20 = .ok (.bipush 30, 2) := by decide +kernel
theorem dX11_areGames_22 : decode cX11_areGames 22 = .ok (.invokestatic 195, 3) := by decide +kernel
theorem dX11_areGames_25 : decode cX11_areGames 25 = .ok (.ifCond .eq 36, 3) := by decide +kernel
theorem dX11_areGames_28 : decode cX11_areGames 28 = .ok (.aload_n 0, 1) := by decide +kernel
theorem dX11_areGames_29 : decode cX11_areGames 29 = .ok (.getfield 33, 3) := by decide +kernel
theorem dX11_areGames_32 : decode cX11_areGames 32 = .ok (.iconst 1, 1) := by decide +kernel
theorem dX11_areGames_33 : decode cX11_areGames 33 = .ok (.iaload, 1) := by decide +kernel
theorem dX11_areGames_34 : decode cX11_areGames 34 = .ok (.iconst 1, 1) := by decide +kernel
theorem dX11_areGames_35 : decode cX11_areGames 35 = .ok (.if_icmp .le 26, 3) := by decide +kernel
theorem dX11_areGames_61 : decode cX11_areGames 61 = .ok (.iconst 0, 1) := by decide +kernel
theorem dX11_areGames_62 : decode cX11_areGames 62 = .ok (.ireturn, 1) := by decide +kernel
theorem dX11_ask_0 : decode cX11_ask 0 = .ok (.aload_n 0, 1) := by decide +kernel
theorem dX11_ask_1 : decode cX11_ask 1 = .ok (.iconst 0, 1) := by decide +kernel
theorem dX11_ask_2 : decode cX11_ask 2 = .ok (.putfield 1, 3) := by decide +kernel
theorem dX11_ask_5 : decode cX11_ask 5 = .ok (.aload_n 0, 1) := by decide +kernel
theorem dX11_ask_6 : decode cX11_ask 6 = .ok (.iload_n 1, 1) := by decide +kernel
theorem dX11_ask_7 : decode cX11_ask 7 = .ok (.iload_n 2, 1) := by decide +kernel
theorem dX11_ask_8 : decode cX11_ask 8 = .ok (.iload_n 3, 1) := by decide +kernel
theorem dX11_ask_9 : decode cX11_ask 9 = .ok (.invokevirtual 298, 3) := by decide +kernel
theorem dX11_ask_12 : decode cX11_ask 12 = .ok (.ifCond .eq 13, 3) := by decide +kernel
theorem dX11_ask_25 : decode cX11_ask 25 = .ok (.iconst (-1), 1) := by decide +kernel
theorem dX11_ask_26 : decode cX11_ask 26 = .ok (.ireturn, 1) := by decide +kernel
theorem dX11_asked_0 : decode cX11_asked 0 = .ok (.aload_n 0, 1) := by decide +kernel
theorem dX11_asked_1 : decode cX11_asked 1 = .ok (.iconst 0, 1) := by decide +kernel
theorem dX11_asked_2 : decode cX11_asked 2 = .ok (.putfield 1, 3) := by decide +kernel
theorem dX11_asked_5 : decode cX11_asked 5 = .ok (.aload_n 0, 1) := by decide +kernel
theorem dX11_asked_6 : decode cX11_asked 6 = .ok (.getfield 310, 3) := by decide +kernel
theorem dX11_asked_9 : decode cX11_asked 9 = .ok (.ifCond .eq 22, 3) := by decide +kernel
theorem dX11_asked_31 : decode cX11_asked 31 = .ok (.iconst (-1), 1) := by decide +kernel
theorem dX11_asked_32 : decode cX11_asked 32 = .ok (.ireturn, 1) := by decide +kernel
theorem dX11_bad_0 : decode cX11_bad 0 = .ok (.aload_n 0, 1) := by decide +kernel
theorem dX11_bad_1 : decode cX11_bad 1 = .ok (.iload_n 1, 1) := by decide +kernel
theorem dX11_bad_2 : decode cX11_bad 2 = .ok (.putfield 180, 3) := by decide +kernel
theorem dX11_bad_5 : decode cX11_bad 5 = .ok (.aload_n 0, 1) := by decide +kernel
theorem dX11_bad_6 : decode cX11_bad 6 = .ok (.aload_n 0, 1) := by decide +kernel
theorem dX11_bad_7 : decode cX11_bad 7 = .ok (.getfield 157, 3) := by decide +kernel
theorem dX11_bad_10 : decode cX11_bad 10 = .ok (.putfield 183, 3) := by decide +kernel
theorem dX11_bad_13 : decode cX11_bad 13 = .ok (.iconst 0, 1) := by decide +kernel
theorem dX11_bad_14 : decode cX11_bad 14 = .ok (.ireturn, 1) := by decide +kernel
theorem dX11_begins_0 : decode cX11_begins 0 = .ok (.iconst 0, 1) := by decide +kernel
theorem dX11_begins_1 : decode cX11_begins 1 = .ok (.istore_n 1, 1) := by decide +kernel
theorem dX11_begins_2 : decode cX11_begins 2 = .ok (.iload_n 1, 1) := by decide +kernel
theorem dX11_begins_3 : decode cX11_begins 3 = .ok (.aload_n 0, 1) := by decide +kernel
theorem dX11_begins_4 : decode cX11_begins 4 = .ok (.getfield 33, 3) := by decide +kernel
theorem dX11_begins_7 : decode cX11_begins 7 = .ok (.iconst 1, 1) := by decide +kernel
theorem dX11_begins_8 : decode cX11_begins 8 = .ok (.iaload, 1) := by decide +kernel
theorem dX11_begins_9 : decode cX11_begins 9 = .ok (.if_icmp .ge 34, 3) := by decide +kernel
theorem dX11_begins_43 : decode cX11_begins 43 = .ok (.iconst 0, 1) := by decide +kernel
theorem dX11_begins_44 : decode cX11_begins 44 = .ok (.istore_n 1, 1) := by decide +kernel
theorem dX11_begins_45 : decode cX11_begins 45 = .ok (.iload_n 1, 1) := by decide +kernel
theorem dX11_begins_46 : decode cX11_begins 46 = .ok (.aload_n 0, 1) := by decide +kernel
theorem dX11_begins_47 : decode cX11_begins 47 = .ok (.getfield 33, 3) := by decide +kernel
theorem dX11_begins_50 : decode cX11_begins 50 = .ok (.iconst 1, 1) := by decide +kernel
theorem dX11_begins_51 : decode cX11_begins 51 = .ok (.iaload, 1) := by decide +kernel
theorem dX11_begins_52 : decode cX11_begins 52 = .ok (.if_icmp .ge 34, 3) := by decide +kernel
theorem dX11_begins_86 : decode cX11_begins 86 = .ok (.aload_n 0, 1) := by decide +kernel
theorem dX11_begins_87 : decode cX11_begins 87 = .ok (.iconst 0, 1) := by decide +kernel
theorem dX11_begins_88 : decode cX11_begins 88 = .ok (.invokevirtual 279, 3) := by decide +kernel
theorem dX11_begins_91 : decode cX11_begins 91 = .ok (.return_, 1) := by decide +kernel
theorem dX11_bent_0 : decode cX11_bent 0 = .ok (.aload_n 0, 1) := by decide +kernel
theorem dX11_bent_1 : decode cX11_bent 1 = .ok (.iconst 0, 1) := by decide +kernel
theorem dX11_bent_2 : decode cX11_bent 2 = .ok (.putfield 1, 3) := by decide +kernel
theorem dX11_bent_5 : decode cX11_bent 5 = .ok (.aload_n 0, 1) := by decide +kernel
theorem dX11_bent_6 : decode cX11_bent 6 = .ok (.iload_n 1, 1) := by decide +kernel
theorem dX11_bent_7 : decode cX11_bent 7 = .ok (.invokevirtual 282, 3) := by decide +kernel
theorem dX11_bent_10 : decode cX11_bent 10 = .ok (.ifCond .eq 21, 3) := by decide +kernel
theorem dX11_bent_31 : decode cX11_bent 31 = .ok (.iconst (-1), 1) := by decide +kernel
theorem dX11_bent_32 : decode cX11_bent 32 = .ok (.ireturn, 1) := by decide +kernel
theorem dX11_book_0 : decode cX11_book 0 = .ok (.aload_n 0, 1) := by decide +kernel
theorem dX11_book_1 : decode cX11_book 1 = .ok (.iconst 0, 1) := by decide +kernel
theorem dX11_book_2 : decode cX11_book 2 = .ok (.putfield 1, 3) := by decide +kernel
theorem dX11_book_5 : decode cX11_book 5 = .ok (.aload_n 0, 1) := by decide +kernel
theorem dX11_book_6 : decode cX11_book 6 = .ok (.iload_n 1, 1) := by decide +kernel
theorem dX11_book_7 : decode cX11_book 7 = .ok (.invokevirtual 285, 3) := by decide +kernel
theorem dX11_book_10 : decode cX11_book 10 = .ok (.ifCond .eq 18, 3) := by decide +kernel
theorem dX11_book_28 : decode cX11_book 28 = .ok (.iconst (-1), 1) := by decide +kernel
theorem dX11_book_29 : decode cX11_book 29 = .ok (.ireturn, 1) := by decide +kernel
theorem dX11_can_0 : decode cX11_can 0 = .ok (.aload_n 0, 1) := by decide +kernel
theorem dX11_can_1 : decode cX11_can 1 = .ok (.iconst 0, 1) := by decide +kernel
theorem dX11_can_2 : decode cX11_can 2 = .ok (.putfield 1, 3) := by decide +kernel
theorem dX11_can_5 : decode cX11_can 5 = .ok (.aload_n 0, 1) := by decide +kernel
theorem dX11_can_6 : decode cX11_can 6 = .ok (.iload_n 1, 1) := by decide +kernel
theorem dX11_can_7 : decode cX11_can 7 = .ok (.invokevirtual 282, 3) := by decide +kernel
theorem dX11_can_10 : decode cX11_can 10 = .ok (.ifCond .eq 11, 3) := by decide +kernel
theorem dX11_can_21 : decode cX11_can 21 = .ok (.iconst (-1), 1) := by decide +kernel
theorem dX11_can_22 : decode cX11_can 22 = .ok (.ireturn, 1) := by decide +kernel
theorem dX11_count_0 : decode cX11_count 0 = .ok (.aload_n 0, 1) := by decide +kernel
theorem dX11_count_1 : decode cX11_count 1 = .ok (.iconst 0, 1) := by decide +kernel
theorem dX11_count_2 : decode cX11_count 2 = .ok (.putfield 1, 3) := by decide +kernel
theorem dX11_count_5 : decode cX11_count 5 = .ok (.iload_n 1, 1) := by decide +kernel
theorem dX11_count_6 : decode cX11_count 6 = .ok (.iconst 4, 1) := by decide +kernel
theorem dX11_count_7 : decode cX11_count 7 = .ok (.if_icmp .ne 10, 3) := by decide +kernel
theorem dX11_count_10 : decode cX11_count 10 = .ok (.aload_n 0, 1) := by decide +kernel
theorem dX11_count_11 : decode cX11_count 11 = .ok (.getfield 7, 3) := by decide +kernel
theorem dX11_count_14 : decode cX11_count 14 = .ok (.goto 22, 3) := by decide +kernel
theorem dX11_count_17 : decode cX11_count 17 = .ok (.iload_n 1, 1) := by decide +kernel
theorem dX11_count_18 : decode cX11_count 18 = .ok (.iconst 0, 1) := by decide +kernel
theorem dX11_count_19 : decode cX11_count 19 = .ok (.iconst 3, 1) := by decide +kernel
theorem dX11_count_20 : decode cX11_count 20 = .ok (.invokestatic 195, 3) := by decide +kernel
theorem dX11_count_23 : decode cX11_count 23 = .ok (.ifCond .eq 12, 3) := by decide +kernel
theorem dX11_count_26 : decode cX11_count 26 = .ok (.aload_n 0, 1) := by decide +kernel
theorem dX11_count_27 : decode cX11_count 27 = .ok (.getfield 33, 3) := by decide +kernel
theorem dX11_count_30 : decode cX11_count 30 = .ok (.iload_n 1, 1) := by decide +kernel
theorem dX11_count_31 : decode cX11_count 31 = .ok (.iaload, 1) := by decide +kernel
theorem dX11_count_32 : decode cX11_count 32 = .ok (.goto 4, 3) := by decide +kernel
theorem dX11_count_35 : decode cX11_count 35 = .ok (.iconst (-1), 1) := by decide +kernel
theorem dX11_count_36 : decode cX11_count 36 = .ok (.ireturn, 1) := by decide +kernel
theorem dX11_deal_0 : decode cX11_deal 0 = .ok (.aload_n 0, 1) := by decide +kernel
theorem dX11_deal_1 : decode cX11_deal 1 = .ok (.iconst 0, 1) := by decide +kernel
theorem dX11_deal_2 : decode cX11_deal 2 = .ok (.putfield 1, 3) := by decide +kernel
theorem dX11_deal_5 : decode cX11_deal 5 = .ok (.iload_n 1, 1) := by decide +kernel
theorem dX11_deal_6 : decode cX11_deal 6 = .ok (.iconst 1, 1) := by decide +kernel
theorem dX11_deal_7 : decode cX11_deal 7 = .ok (.bipush 9, 2) := by decide +kernel
theorem dX11_deal_9 : decode cX11_deal 9 = .ok (.invokestatic 195, 3) := by decide +kernel
theorem dX11_deal_12 : decode cX11_deal 12 = .ok (.ifCond .eq 40, 3) := by decide +kernel
theorem dX11_deal_15 : decode cX11_deal 15 = .ok (.aload_n 0, 1) := by decide +kernel
theorem dX11_deal_16 : decode cX11_deal 16 = .ok (.getfield 33, 3) := by decide +kernel
theorem dX11_deal_19 : decode cX11_deal 19 = .ok (.iconst 1, 1) := by decide +kernel
theorem dX11_deal_20 : decode cX11_deal 20 = .ok (.iaload, 1) := by decide +kernel
theorem dX11_deal_21 : decode cX11_deal 21 = .ok (.ifCond .eq 31, 3) := by decide +kernel
theorem dX11_deal_52 : decode cX11_deal 52 = .ok (.iconst 0, 1) := by decide +kernel
theorem dX11_deal_53 : decode cX11_deal 53 = .ok (.ireturn, 1) := by decide +kernel
theorem dX11_end_0 : decode cX11_end 0 = .ok (.aload_n 0, 1) := by decide +kernel
theorem dX11_end_1 : decode cX11_end 1 = .ok (.iconst 0, 1) := by decide +kernel
theorem dX11_end_2 : decode cX11_end 2 = .ok (.putfield 1, 3) := by decide +kernel
theorem dX11_end_5 : decode cX11_end 5 = .ok (.iload_n 1, 1) := by decide +kernel
theorem dX11_end_6 : decode cX11_end 6 = .ok (.ifCond .lt 11, 3) := by decide +kernel
theorem dX11_end_9 : decode cX11_end 9 = .ok (.iload_n 1, 1) := by decide +kernel
theorem dX11_end_10 : decode cX11_end 10 = .ok (.aload_n 0, 1) := by decide +kernel
theorem dX11_end_11 : decode cX11_end 11 = .ok (.getfield 7, 3) := by decide +kernel
theorem dX11_end_14 : decode cX11_end 14 = .ok (.if_icmp .le 5, 3) := by decide +kernel
theorem dX11_end_17 : decode cX11_end 17 = .ok (.iconst 0, 1) := by decide +kernel
theorem dX11_end_18 : decode cX11_end 18 = .ok (.ireturn, 1) := by decide +kernel
theorem dX11_end_19 : decode cX11_end 19 = .ok (.aload_n 0, 1) := by decide +kernel
theorem dX11_end_20 : decode cX11_end 20 = .ok (.iload_n 1, 1) := by decide +kernel
theorem dX11_end_21 : decode cX11_end 21 = .ok (.putfield 7, 3) := by decide +kernel
theorem dX11_end_24 : decode cX11_end 24 = .ok (.iconst 1, 1) := by decide +kernel
theorem dX11_end_25 : decode cX11_end 25 = .ok (.ireturn, 1) := by decide +kernel
theorem dX11_fault_0 : decode cX11_fault 0 = .ok (.aload_n 0, 1) := by decide +kernel
theorem dX11_fault_1 : decode cX11_fault 1 = .ok (.iconst 0, 1) := by decide +kernel
theorem dX11_fault_2 : decode cX11_fault 2 = .ok (.putfield 1, 3) := by decide +kernel
theorem dX11_fault_5 : decode cX11_fault 5 = .ok (.aload_n 0, 1) := by decide +kernel
theorem dX11_fault_6 : decode cX11_fault 6 = .ok (.getfield 180, 3) := by decide +kernel
theorem dX11_fault_9 : decode cX11_fault 9 = .ok (.ireturn, 1) := by decide +kernel
theorem dX11_feed_0 : decode cX11_feed 0 = .ok (.aload_n 0, 1) := by decide +kernel
theorem dX11_feed_1 : decode cX11_feed 1 = .ok (.iconst 0, 1) := by decide +kernel
theorem dX11_feed_2 : decode cX11_feed 2 = .ok (.putfield 1, 3) := by decide +kernel
theorem dX11_feed_5 : decode cX11_feed 5 = .ok (.aload_n 0, 1) := by decide +kernel
theorem dX11_feed_6 : decode cX11_feed 6 = .ok (.getfield 7, 3) := by decide +kernel
theorem dX11_feed_9 : decode cX11_feed 9 = .ok (.bipush 20, 2) := by decide +kernel
theorem dX11_feed_11 : decode cX11_feed 11 = .ok (.iadd, 1) := by decide +kernel
theorem dX11_feed_12 : decode cX11_feed 12 = .ok (.sipush 940, 3) := by decide +kernel
theorem dX11_feed_15 : decode cX11_feed 15 = .ok (.if_icmp .le 5, 3) := by decide +kernel
theorem dX11_feed_20 : decode cX11_feed 20 = .ok (.aload_n 0, 1) := by decide +kernel
theorem dX11_feed_21 : decode cX11_feed 21 = .ok (.iload_n 1, 1) := by decide +kernel
theorem dX11_feed_22 : decode cX11_feed 22 = .ok (.invokevirtual 10, 3) := by decide +kernel
theorem dX11_feed_25 : decode cX11_feed 25 = .ok (.aload_n 0, 1) := by decide +kernel
theorem dX11_feed_26 : decode cX11_feed 26 = .ok (.iload_n 2, 1) := by decide +kernel
theorem dX11_feed_27 : decode cX11_feed 27 = .ok (.invokevirtual 10, 3) := by decide +kernel
theorem dX11_feed_30 : decode cX11_feed 30 = .ok (.aload_n 0, 1) := by decide +kernel
theorem dX11_feed_31 : decode cX11_feed 31 = .ok (.iload_n 3, 1) := by decide +kernel
theorem dX11_feed_32 : decode cX11_feed 32 = .ok (.invokevirtual 10, 3) := by decide +kernel
theorem dX11_feed_35 : decode cX11_feed 35 = .ok (.aload_n 0, 1) := by decide +kernel
theorem dX11_feed_36 : decode cX11_feed 36 = .ok (.iload 4, 2) := by decide +kernel
theorem dX11_feed_38 : decode cX11_feed 38 = .ok (.invokevirtual 10, 3) := by decide +kernel
theorem dX11_feed_41 : decode cX11_feed 41 = .ok (.aload_n 0, 1) := by decide +kernel
theorem dX11_feed_42 : decode cX11_feed 42 = .ok (.iload 5, 2) := by decide +kernel
theorem dX11_feed_44 : decode cX11_feed 44 = .ok (.invokevirtual 10, 3) := by decide +kernel
theorem dX11_feed_47 : decode cX11_feed 47 = .ok (.aload_n 0, 1) := by decide +kernel
theorem dX11_feed_48 : decode cX11_feed 48 = .ok (.getfield 7, 3) := by decide +kernel
theorem dX11_feed_51 : decode cX11_feed 51 = .ok (.ireturn, 1) := by decide +kernel
theorem dX11_first_0 : decode cX11_first 0 = .ok (.aload_n 0, 1) := by decide +kernel
theorem dX11_first_1 : decode cX11_first 1 = .ok (.iconst 0, 1) := by decide +kernel
theorem dX11_first_2 : decode cX11_first 2 = .ok (.putfield 1, 3) := by decide +kernel
theorem dX11_first_5 : decode cX11_first 5 = .ok (.aload_n 0, 1) := by decide +kernel
theorem dX11_first_6 : decode cX11_first 6 = .ok (.invokevirtual 397, 3) := by decide +kernel
theorem dX11_first_9 : decode cX11_first 9 = .ok (.bipush (-101), 2) := by decide +kernel
theorem dX11_first_11 : decode cX11_first 11 = .ok (.if_icmp .ne 7, 3) := by decide +kernel
theorem dX11_first_14 : decode cX11_first 14 = .ok (.iconst (-1), 1) := by decide +kernel
theorem dX11_first_15 : decode cX11_first 15 = .ok (.goto 7, 3) := by decide +kernel
theorem dX11_first_22 : decode cX11_first 22 = .ok (.ireturn, 1) := by decide +kernel
theorem dX11_four_0 : decode cX11_four 0 = .ok (.bipush 24, 2) := by decide +kernel
theorem dX11_four_2 : decode cX11_four 2 = .ok (.istore_n 2, 1) := by decide +kernel
theorem dX11_four_3 : decode cX11_four 3 = .ok (.iload_n 2, 1) := by decide +kernel
theorem dX11_four_4 : decode cX11_four 4 = .ok (.ifCond .lt 32, 3) := by decide +kernel
theorem dX11_four_7 : decode cX11_four 7 = .ok (.aload_n 0, 1) := by decide +kernel
theorem dX11_four_8 : decode cX11_four 8 = .ok (.getfield 14, 3) := by decide +kernel
theorem dX11_four_11 : decode cX11_four 11 = .ok (.aload_n 0, 1) := by decide +kernel
theorem dX11_four_12 : decode cX11_four 12 = .ok (.getfield 7, 3) := by decide +kernel
theorem dX11_four_15 : decode cX11_four 15 = .ok (.iload_n 1, 1) := by decide +kernel
theorem dX11_four_16 : decode cX11_four 16 = .ok (.iload_n 2, 1) := by decide +kernel
theorem dX11_four_17 : decode cX11_four 17 = .ok (.ishr, 1) := by decide +kernel
theorem dX11_four_18 : decode cX11_four 18 = .ok (.i2b, 1) := by decide +kernel
theorem dX11_four_19 : decode cX11_four 19 = .ok (.bastore, 1) := by decide +kernel
theorem dX11_four_20 : decode cX11_four 20 = .ok (.aload_n 0, 1) := by decide +kernel
theorem dX11_four_21 : decode cX11_four 21 = .ok (.dup, 1) := by decide +kernel
theorem dX11_four_22 : decode cX11_four 22 = .ok (.getfield 7, 3) := by decide +kernel
theorem dX11_four_25 : decode cX11_four 25 = .ok (.iconst 1, 1) := by decide +kernel
theorem dX11_four_26 : decode cX11_four 26 = .ok (.iadd, 1) := by decide +kernel
theorem dX11_four_27 : decode cX11_four 27 = .ok (.putfield 7, 3) := by decide +kernel
theorem dX11_four_30 : decode cX11_four 30 = .ok (.iinc 2 (-8), 3) := by decide +kernel
theorem dX11_four_33 : decode cX11_four 33 = .ok (.goto (-30), 3) := by decide +kernel
theorem dX11_four_36 : decode cX11_four 36 = .ok (.return_, 1) := by decide +kernel
theorem dX11_gains_0 : decode cX11_gains 0 = .ok (.aload_n 0, 1) := by decide +kernel
theorem dX11_gains_1 : decode cX11_gains 1 = .ok (.iconst 0, 1) := by decide +kernel
theorem dX11_gains_2 : decode cX11_gains 2 = .ok (.putfield 1, 3) := by decide +kernel
theorem dX11_gains_5 : decode cX11_gains 5 = .ok (.aload_n 0, 1) := by decide +kernel
theorem dX11_gains_6 : decode cX11_gains 6 = .ok (.iload_n 1, 1) := by decide +kernel
theorem dX11_gains_7 : decode cX11_gains 7 = .ok (.invokevirtual 282, 3) := by decide +kernel
theorem dX11_gains_10 : decode cX11_gains 10 = .ok (.ifCond .ne 5, 3) := by decide +kernel
theorem dX11_gains_13 : decode cX11_gains 13 = .ok (.iconst (-1), 1) := by decide +kernel
theorem dX11_gains_14 : decode cX11_gains 14 = .ok (.ireturn, 1) := by decide +kernel
theorem dX11_games_0 : decode cX11_games 0 = .ok (.aload_n 0, 1) := by decide +kernel
theorem dX11_games_1 : decode cX11_games 1 = .ok (.iconst 0, 1) := by decide +kernel
theorem dX11_games_2 : decode cX11_games 2 = .ok (.putfield 1, 3) := by decide +kernel
theorem dX11_games_5 : decode cX11_games 5 = .ok (.aload_n 0, 1) := by decide +kernel
theorem dX11_games_6 : decode cX11_games 6 = .ok (.iload_n 1, 1) := by decide +kernel
theorem dX11_games_7 : decode cX11_games 7 = .ok (.iload_n 2, 1) := by decide +kernel
theorem dX11_games_8 : decode cX11_games 8 = .ok (.iload_n 3, 1) := by decide +kernel
theorem dX11_games_9 : decode cX11_games 9 = .ok (.invokevirtual 432, 3) := by decide +kernel
theorem dX11_games_12 : decode cX11_games 12 = .ok (.ifCond .eq 15, 3) := by decide +kernel
theorem dX11_games_27 : decode cX11_games 27 = .ok (.iconst (-1), 1) := by decide +kernel
theorem dX11_games_28 : decode cX11_games 28 = .ok (.ireturn, 1) := by decide +kernel
theorem dX11_hand_0 : decode cX11_hand 0 = .ok (.aload_n 0, 1) := by decide +kernel
theorem dX11_hand_1 : decode cX11_hand 1 = .ok (.aload_n 0, 1) := by decide +kernel
theorem dX11_hand_2 : decode cX11_hand 2 = .ok (.iload_n 1, 1) := by decide +kernel
theorem dX11_hand_3 : decode cX11_hand 3 = .ok (.invokevirtual 282, 3) := by decide +kernel
theorem dX11_hand_6 : decode cX11_hand 6 = .ok (.ifCond .eq 11, 3) := by decide +kernel
theorem dX11_hand_17 : decode cX11_hand 17 = .ok (.iconst 1, 1) := by decide +kernel
theorem dX11_hand_18 : decode cX11_hand 18 = .ok (.goto 4, 3) := by decide +kernel
theorem dX11_hand_22 : decode cX11_hand 22 = .ok (.invokevirtual 288, 3) := by decide +kernel
theorem dX11_hand_25 : decode cX11_hand 25 = .ok (.ifCond .eq 7, 3) := by decide +kernel
theorem dX11_hand_28 : decode cX11_hand 28 = .ok (.iconst 0, 1) := by decide +kernel
theorem dX11_hand_29 : decode cX11_hand 29 = .ok (.goto 10, 3) := by decide +kernel
theorem dX11_hand_39 : decode cX11_hand 39 = .ok (.ireturn, 1) := by decide +kernel
theorem dX11_heap_0 : decode cX11_heap 0 = .ok (.aload_n 0, 1) := by decide +kernel
theorem dX11_heap_1 : decode cX11_heap 1 = .ok (.iconst 0, 1) := by decide +kernel
theorem dX11_heap_2 : decode cX11_heap 2 = .ok (.putfield 1, 3) := by decide +kernel
theorem dX11_heap_5 : decode cX11_heap 5 = .ok (.iload_n 1, 1) := by decide +kernel
theorem dX11_heap_6 : decode cX11_heap 6 = .ok (.iconst 0, 1) := by decide +kernel
theorem dX11_heap_7 : decode cX11_heap 7 = .ok (.aload_n 0, 1) := by decide +kernel
theorem dX11_heap_8 : decode cX11_heap 8 = .ok (.getfield 33, 3) := by decide +kernel
theorem dX11_heap_11 : decode cX11_heap 11 = .ok (.bipush 7, 2) := by decide +kernel
theorem dX11_heap_13 : decode cX11_heap 13 = .ok (.iaload, 1) := by decide +kernel
theorem dX11_heap_14 : decode cX11_heap 14 = .ok (.iconst 1, 1) := by decide +kernel
theorem dX11_heap_15 : decode cX11_heap 15 = .ok (.isub, 1) := by decide +kernel
theorem dX11_heap_16 : decode cX11_heap 16 = .ok (.invokestatic 195, 3) := by decide +kernel
theorem dX11_heap_19 : decode cX11_heap 19 = .ok (.ifCond .eq 15, 3) := by decide +kernel
theorem dX11_heap_34 : decode cX11_heap 34 = .ok (.iconst (-1), 1) := by decide +kernel
theorem dX11_heap_35 : decode cX11_heap 35 = .ok (.ireturn, 1) := by decide +kernel
theorem dX11_heard_0 : decode cX11_heard 0 = .ok (.aload_n 0, 1) := by decide +kernel
theorem dX11_heard_1 : decode cX11_heard 1 = .ok (.iconst 0, 1) := by decide +kernel
theorem dX11_heard_2 : decode cX11_heard 2 = .ok (.putfield 1, 3) := by decide +kernel
theorem dX11_heard_5 : decode cX11_heard 5 = .ok (.aload_n 0, 1) := by decide +kernel
theorem dX11_heard_6 : decode cX11_heard 6 = .ok (.getfield 445, 3) := by decide +kernel
theorem dX11_heard_9 : decode cX11_heard 9 = .ok (.ifCond .eq 21, 3) := by decide +kernel
theorem dX11_heard_30 : decode cX11_heard 30 = .ok (.iconst (-1), 1) := by decide +kernel
theorem dX11_heard_31 : decode cX11_heard 31 = .ok (.ireturn, 1) := by decide +kernel
theorem dX11_isIn_0 : decode cX11_isIn 0 = .ok (.iload_n 0, 1) := by decide +kernel
theorem dX11_isIn_1 : decode cX11_isIn 1 = .ok (.iload_n 1, 1) := by decide +kernel
theorem dX11_isIn_2 : decode cX11_isIn 2 = .ok (.if_icmp .lt 12, 3) := by decide +kernel
theorem dX11_isIn_5 : decode cX11_isIn 5 = .ok (.iload_n 0, 1) := by decide +kernel
theorem dX11_isIn_6 : decode cX11_isIn 6 = .ok (.iload_n 2, 1) := by decide +kernel
theorem dX11_isIn_7 : decode cX11_isIn 7 = .ok (.if_icmp .gt 7, 3) := by decide +kernel
theorem dX11_isIn_10 : decode cX11_isIn 10 = .ok (.iconst 1, 1) := by decide +kernel
theorem dX11_isIn_11 : decode cX11_isIn 11 = .ok (.goto 4, 3) := by decide +kernel
theorem dX11_isIn_14 : decode cX11_isIn 14 = .ok (.iconst 0, 1) := by decide +kernel
theorem dX11_isIn_15 : decode cX11_isIn 15 = .ok (.ireturn, 1) := by decide +kernel
theorem dX11_isKind_0 : decode cX11_isKind 0 = .ok (.iload_n 1, 1) := by decide +kernel
theorem dX11_isKind_1 : decode cX11_isKind 1 = .ok (.iconst 0, 1) := by decide +kernel
theorem dX11_isKind_2 : decode cX11_isKind 2 = .ok (.aload_n 0, 1) := by decide +kernel
theorem dX11_isKind_3 : decode cX11_isKind 3 = .ok (.getfield 33, 3) := by decide +kernel
theorem dX11_isKind_6 : decode cX11_isKind 6 = .ok (.iconst 0, 1) := by decide +kernel
theorem dX11_isKind_7 : decode cX11_isKind 7 = .ok (.iaload, 1) := by decide +kernel
theorem dX11_isKind_8 : decode cX11_isKind 8 = .ok (.iconst 1, 1) := by decide +kernel
theorem dX11_isKind_9 : decode cX11_isKind 9 = .ok (.isub, 1) := by decide +kernel
theorem dX11_isKind_10 : decode cX11_isKind 10 = .ok (.invokestatic 195, 3) := by decide +kernel
theorem dX11_isKind_13 : decode cX11_isKind 13 = .ok (.ireturn, 1) := by decide +kernel
theorem dX11_isPerson_0 : decode cX11_isPerson 0 = .ok (.iload_n 1, 1) := by decide +kernel
theorem dX11_isPerson_1 : decode cX11_isPerson 1 = .ok (.iconst 0, 1) := by decide +kernel
theorem dX11_isPerson_2 : decode cX11_isPerson 2 = .ok (.aload_n 0, 1) := by decide +kernel
theorem dX11_isPerson_3 : decode cX11_isPerson 3 = .ok (.getfield 33, 3) := by decide +kernel
theorem dX11_isPerson_6 : decode cX11_isPerson 6 = .ok (.iconst 1, 1) := by decide +kernel
theorem dX11_isPerson_7 : decode cX11_isPerson 7 = .ok (.iaload, 1) := by decide +kernel
theorem dX11_isPerson_8 : decode cX11_isPerson 8 = .ok (.iconst 1, 1) := by decide +kernel
theorem dX11_isPerson_9 : decode cX11_isPerson 9 = .ok (.isub, 1) := by decide +kernel
theorem dX11_isPerson_10 : decode cX11_isPerson 10 = .ok (.invokestatic 195, 3) := by decide +kernel
theorem dX11_isPerson_13 : decode cX11_isPerson 13 = .ok (.ireturn, 1) := by decide +kernel
theorem dX11_isSign_0 : decode cX11_isSign 0 = .ok (.aload_n 0, 1) := by decide +kernel
theorem dX11_isSign_1 : decode cX11_isSign 1 = .ok (.getfield 163, 3) := by decide +kernel
theorem dX11_isSign_4 : decode cX11_isSign 4 = .ok (.iconst 3, 1) := by decide +kernel
theorem dX11_isSign_5 : decode cX11_isSign 5 = .ok (.if_icmp .ne 15, 3) := by decide +kernel
theorem dX11_isSign_20 : decode cX11_isSign 20 = .ok (.iconst 0, 1) := by decide +kernel
theorem dX11_isSign_21 : decode cX11_isSign 21 = .ok (.ireturn, 1) := by decide +kernel
theorem dX11_isWord_0 : decode cX11_isWord 0 = .ok (.aload_n 0, 1) := by decide +kernel
theorem dX11_isWord_1 : decode cX11_isWord 1 = .ok (.getfield 163, 3) := by decide +kernel
theorem dX11_isWord_4 : decode cX11_isWord 4 = .ok (.iconst 1, 1) := by decide +kernel
theorem dX11_isWord_5 : decode cX11_isWord 5 = .ok (.if_icmp .ne 16, 3) := by decide +kernel
theorem dX11_isWord_21 : decode cX11_isWord 21 = .ok (.iconst 0, 1) := by decide +kernel
theorem dX11_isWord_22 : decode cX11_isWord 22 = .ok (.ireturn, 1) := by decide +kernel
theorem dX11_known_0 : decode cX11_known 0 = .ok (.aload_n 0, 1) := by decide +kernel
theorem dX11_known_1 : decode cX11_known 1 = .ok (.iconst 0, 1) := by decide +kernel
theorem dX11_known_2 : decode cX11_known 2 = .ok (.putfield 1, 3) := by decide +kernel
theorem dX11_known_5 : decode cX11_known 5 = .ok (.aload_n 0, 1) := by decide +kernel
theorem dX11_known_6 : decode cX11_known 6 = .ok (.iload_n 1, 1) := by decide +kernel
theorem dX11_known_7 : decode cX11_known 7 = .ok (.invokevirtual 282, 3) := by decide +kernel
theorem dX11_known_10 : decode cX11_known 10 = .ok (.ifCond .eq 29, 3) := by decide +kernel
theorem dX11_known_39 : decode cX11_known 39 = .ok (.iconst (-1), 1) := by decide +kernel
theorem dX11_known_40 : decode cX11_known 40 = .ok (.ireturn, 1) := by decide +kernel
theorem dX11_leader_0 : decode cX11_leader 0 = .ok (.aload_n 0, 1) := by decide +kernel
theorem dX11_leader_1 : decode cX11_leader 1 = .ok (.iconst 0, 1) := by decide +kernel
theorem dX11_leader_2 : decode cX11_leader 2 = .ok (.putfield 1, 3) := by decide +kernel
theorem dX11_leader_5 : decode cX11_leader 5 = .ok (.iconst (-1), 1) := by decide +kernel
theorem dX11_leader_6 : decode cX11_leader 6 = .ok (.istore_n 1, 1) := by decide +kernel
theorem dX11_leader_7 : decode cX11_leader 7 = .ok (.iconst 0, 1) := by decide +kernel
theorem dX11_leader_8 : decode cX11_leader 8 = .ok (.istore_n 2, 1) := by decide +kernel
theorem dX11_leader_9 : decode cX11_leader 9 = .ok (.iload_n 2, 1) := by decide +kernel
theorem dX11_leader_10 : decode cX11_leader 10 = .ok (.aload_n 0, 1) := by decide +kernel
theorem dX11_leader_11 : decode cX11_leader 11 = .ok (.getfield 33, 3) := by decide +kernel
theorem dX11_leader_14 : decode cX11_leader 14 = .ok (.iconst 1, 1) := by decide +kernel
theorem dX11_leader_15 : decode cX11_leader 15 = .ok (.iaload, 1) := by decide +kernel
theorem dX11_leader_16 : decode cX11_leader 16 = .ok (.if_icmp .ge 28, 3) := by decide +kernel
theorem dX11_leader_44 : decode cX11_leader 44 = .ok (.iload_n 1, 1) := by decide +kernel
theorem dX11_leader_45 : decode cX11_leader 45 = .ok (.ireturn, 1) := by decide +kernel
theorem dX11_leafOf_0 : decode cX11_leafOf 0 = .ok (.aload_n 0, 1) := by decide +kernel
theorem dX11_leafOf_1 : decode cX11_leafOf 1 = .ok (.ldc2_w 139, 3) := by decide +kernel
theorem dX11_leafOf_4 : decode cX11_leafOf 4 = .ok (.invokevirtual 202, 3) := by decide +kernel
theorem dX11_leafOf_7 : decode cX11_leafOf 7 = .ok (.ifCond .eq 7, 3) := by decide +kernel
theorem dX11_leafOf_14 : decode cX11_leafOf 14 = .ok (.aload_n 0, 1) := by decide +kernel
theorem dX11_leafOf_15 : decode cX11_leafOf 15 = .ok (.ldc2_w 141, 3) := by decide +kernel
theorem dX11_leafOf_18 : decode cX11_leafOf 18 = .ok (.invokevirtual 202, 3) := by decide +kernel
theorem dX11_leafOf_21 : decode cX11_leafOf 21 = .ok (.ifCond .eq 7, 3) := by decide +kernel
theorem dX11_leafOf_28 : decode cX11_leafOf 28 = .ok (.aload_n 0, 1) := by decide +kernel
theorem dX11_leafOf_29 : decode cX11_leafOf 29 = .ok (.ldc2_w 143, 3) := by decide +kernel
theorem dX11_leafOf_32 : decode cX11_leafOf 32 = .ok (.invokevirtual 202, 3) := by decide +kernel
theorem dX11_leafOf_35 : decode cX11_leafOf 35 = .ok (.ifCond .eq 7, 3) := by decide +kernel
theorem dX11_leafOf_42 : decode cX11_leafOf 42 = .ok (.aload_n 0, 1) := by decide +kernel
theorem dX11_leafOf_43 : decode cX11_leafOf 43 = .ok (.ldc2_w 145, 3) := by decide +kernel
theorem dX11_leafOf_46 : decode cX11_leafOf 46 = .ok (.invokevirtual 202, 3) := by decide +kernel
theorem dX11_leafOf_49 : decode cX11_leafOf 49 = .ok (.ifCond .eq 7, 3) := by decide +kernel
theorem dX11_leafOf_56 : decode cX11_leafOf 56 = .ok (.aload_n 0, 1) := by decide +kernel
theorem dX11_leafOf_57 : decode cX11_leafOf 57 = .ok (.ldc2_w 147, 3) := by decide +kernel
theorem dX11_leafOf_60 : decode cX11_leafOf 60 = .ok (.invokevirtual 202, 3) := by decide +kernel
theorem dX11_leafOf_63 : decode cX11_leafOf 63 = .ok (.ifCond .eq 7, 3) := by decide +kernel
theorem dX11_leafOf_70 : decode cX11_leafOf 70 = .ok (.aload_n 0, 1) := by decide +kernel
theorem dX11_leafOf_71 : decode cX11_leafOf 71 = .ok (.ldc2_w 149, 3) := by decide +kernel
theorem dX11_leafOf_74 : decode cX11_leafOf 74 = .ok (.invokevirtual 202, 3) := by decide +kernel
theorem dX11_leafOf_77 : decode cX11_leafOf 77 = .ok (.ifCond .eq 7, 3) := by decide +kernel
theorem dX11_leafOf_84 : decode cX11_leafOf 84 = .ok (.aload_n 0, 1) := by decide +kernel
theorem dX11_leafOf_85 : decode cX11_leafOf 85 = .ok (.ldc2_w 151, 3) := by decide +kernel
theorem dX11_leafOf_88 : decode cX11_leafOf 88 = .ok (.invokevirtual 202, 3) := by decide +kernel
theorem dX11_leafOf_91 : decode cX11_leafOf 91 = .ok (.ifCond .eq 8, 3) := by decide +kernel
theorem dX11_leafOf_99 : decode cX11_leafOf 99 = .ok (.iconst (-1), 1) := by decide +kernel
theorem dX11_leafOf_100 : decode cX11_leafOf 100 = .ok (.ireturn, 1) := by decide +kernel
theorem dX11_length_0 : decode cX11_length 0 = .ok (.aload_n 0, 1) := by decide +kernel
theorem dX11_length_1 : decode cX11_length 1 = .ok (.iconst 0, 1) := by decide +kernel
theorem dX11_length_2 : decode cX11_length 2 = .ok (.putfield 1, 3) := by decide +kernel
theorem dX11_length_5 : decode cX11_length 5 = .ok (.aload_n 0, 1) := by decide +kernel
theorem dX11_length_6 : decode cX11_length 6 = .ok (.iload_n 1, 1) := by decide +kernel
theorem dX11_length_7 : decode cX11_length 7 = .ok (.iload_n 2, 1) := by decide +kernel
theorem dX11_length_8 : decode cX11_length 8 = .ok (.iload_n 3, 1) := by decide +kernel
theorem dX11_length_9 : decode cX11_length 9 = .ok (.invokevirtual 432, 3) := by decide +kernel
theorem dX11_length_12 : decode cX11_length 12 = .ok (.ifCond .ne 5, 3) := by decide +kernel
theorem dX11_length_15 : decode cX11_length 15 = .ok (.iconst (-1), 1) := by decide +kernel
theorem dX11_length_16 : decode cX11_length 16 = .ok (.ireturn, 1) := by decide +kernel
theorem dX11_next_0 : decode cX11_next 0 = .ok (.aload_n 0, 1) := by decide +kernel
theorem dX11_next_1 : decode cX11_next 1 = .ok (.invokevirtual 153, 3) := by decide +kernel
theorem dX11_next_4 : decode cX11_next 4 = .ok (.bipush 32, 2) := by decide +kernel
theorem dX11_next_6 : decode cX11_next 6 = .ok (.if_icmp .eq 12, 3) := by decide +kernel
theorem dX11_next_9 : decode cX11_next 9 = .ok (.aload_n 0, 1) := by decide +kernel
theorem dX11_next_10 : decode cX11_next 10 = .ok (.invokevirtual 153, 3) := by decide +kernel
theorem dX11_next_13 : decode cX11_next 13 = .ok (.bipush 10, 2) := by decide +kernel
theorem dX11_next_15 : decode cX11_next 15 = .ok (.if_icmp .ne 16, 3) := by decide +kernel
theorem dX11_next_31 : decode cX11_next 31 = .ok (.aload_n 0, 1) := by decide +kernel
theorem dX11_next_32 : decode cX11_next 32 = .ok (.aload_n 0, 1) := by decide +kernel
theorem dX11_next_33 : decode cX11_next 33 = .ok (.getfield 21, 3) := by decide +kernel
theorem dX11_next_36 : decode cX11_next 36 = .ok (.putfield 157, 3) := by decide +kernel
theorem dX11_next_39 : decode cX11_next 39 = .ok (.aload_n 0, 1) := by decide +kernel
theorem dX11_next_40 : decode cX11_next 40 = .ok (.iconst 0, 1) := by decide +kernel
theorem dX11_next_41 : decode cX11_next 41 = .ok (.putfield 160, 3) := by decide +kernel
theorem dX11_next_44 : decode cX11_next 44 = .ok (.aload_n 0, 1) := by decide +kernel
theorem dX11_next_45 : decode cX11_next 45 = .ok (.getfield 18, 3) := by decide +kernel
theorem dX11_next_48 : decode cX11_next 48 = .ok (.aload_n 0, 1) := by decide +kernel
theorem dX11_next_49 : decode cX11_next 49 = .ok (.getfield 24, 3) := by decide +kernel
theorem dX11_next_52 : decode cX11_next 52 = .ok (.if_icmp .le 28, 3) := by decide +kernel
theorem dX11_next_80 : decode cX11_next 80 = .ok (.aload_n 0, 1) := by decide +kernel
theorem dX11_next_81 : decode cX11_next 81 = .ok (.invokevirtual 153, 3) := by decide +kernel
theorem dX11_next_84 : decode cX11_next 84 = .ok (.istore_n 1, 1) := by decide +kernel
theorem dX11_next_85 : decode cX11_next 85 = .ok (.iload_n 1, 1) := by decide +kernel
theorem dX11_next_86 : decode cX11_next 86 = .ok (.ifCond .ge 9, 3) := by decide +kernel
theorem dX11_next_89 : decode cX11_next 89 = .ok (.aload_n 0, 1) := by decide +kernel
theorem dX11_next_90 : decode cX11_next 90 = .ok (.iconst 0, 1) := by decide +kernel
theorem dX11_next_91 : decode cX11_next 91 = .ok (.putfield 163, 3) := by decide +kernel
theorem dX11_next_94 : decode cX11_next 94 = .ok (.return_, 1) := by decide +kernel
theorem dX11_next__0 : decode cX11_next_ 0 = .ok (.aload_n 0, 1) := by decide +kernel
theorem dX11_next__1 : decode cX11_next_ 1 = .ok (.aload_n 0, 1) := by decide +kernel
theorem dX11_next__2 : decode cX11_next_ 2 = .ok (.iload_n 1, 1) := by decide +kernel
theorem dX11_next__3 : decode cX11_next_ 3 = .ok (.invokevirtual 282, 3) := by decide +kernel
theorem dX11_next__6 : decode cX11_next_ 6 = .ok (.ifCond .eq 38, 3) := by decide +kernel
theorem dX11_next__44 : decode cX11_next_ 44 = .ok (.iconst 1, 1) := by decide +kernel
theorem dX11_next__45 : decode cX11_next_ 45 = .ok (.goto 4, 3) := by decide +kernel
theorem dX11_next__49 : decode cX11_next_ 49 = .ok (.invokevirtual 288, 3) := by decide +kernel
theorem dX11_next__52 : decode cX11_next_ 52 = .ok (.ifCond .eq 5, 3) := by decide +kernel
theorem dX11_next__55 : decode cX11_next_ 55 = .ok (.lconst 0, 1) := by decide +kernel
theorem dX11_next__56 : decode cX11_next_ 56 = .ok (.lreturn, 1) := by decide +kernel
theorem dX11_now_0 : decode cX11_now 0 = .ok (.aload_n 0, 1) := by decide +kernel
theorem dX11_now_1 : decode cX11_now 1 = .ok (.iconst 0, 1) := by decide +kernel
theorem dX11_now_2 : decode cX11_now 2 = .ok (.putfield 1, 3) := by decide +kernel
theorem dX11_now_5 : decode cX11_now 5 = .ok (.aload_n 0, 1) := by decide +kernel
theorem dX11_now_6 : decode cX11_now 6 = .ok (.getfield 33, 3) := by decide +kernel
theorem dX11_now_9 : decode cX11_now 9 = .ok (.bipush 7, 2) := by decide +kernel
theorem dX11_now_11 : decode cX11_now 11 = .ok (.iaload, 1) := by decide +kernel
theorem dX11_now_12 : decode cX11_now 12 = .ok (.istore_n 2, 1) := by decide +kernel
theorem dX11_now_13 : decode cX11_now 13 = .ok (.iconst 0, 1) := by decide +kernel
theorem dX11_now_14 : decode cX11_now 14 = .ok (.istore_n 3, 1) := by decide +kernel
theorem dX11_now_15 : decode cX11_now 15 = .ok (.iload_n 3, 1) := by decide +kernel
theorem dX11_now_16 : decode cX11_now 16 = .ok (.aload_n 0, 1) := by decide +kernel
theorem dX11_now_17 : decode cX11_now 17 = .ok (.getfield 33, 3) := by decide +kernel
theorem dX11_now_20 : decode cX11_now 20 = .ok (.iconst 1, 1) := by decide +kernel
theorem dX11_now_21 : decode cX11_now 21 = .ok (.iaload, 1) := by decide +kernel
theorem dX11_now_22 : decode cX11_now 22 = .ok (.if_icmp .ge 17, 3) := by decide +kernel
theorem dX11_now_39 : decode cX11_now 39 = .ok (.iload_n 1, 1) := by decide +kernel
theorem dX11_now_40 : decode cX11_now 40 = .ok (.tableswitch 77 0 5 #[40, 47, 55, 62, 67, 75], 40) := by decide +kernel
theorem dX11_now_80 : decode cX11_now 80 = .ok (.aload_n 0, 1) := by decide +kernel
theorem dX11_now_81 : decode cX11_now 81 = .ok (.getfield 33, 3) := by decide +kernel
theorem dX11_now_84 : decode cX11_now 84 = .ok (.iconst 4, 1) := by decide +kernel
theorem dX11_now_85 : decode cX11_now 85 = .ok (.iaload, 1) := by decide +kernel
theorem dX11_now_86 : decode cX11_now 86 = .ok (.ireturn, 1) := by decide +kernel
theorem dX11_now_87 : decode cX11_now 87 = .ok (.aload_n 0, 1) := by decide +kernel
theorem dX11_now_88 : decode cX11_now 88 = .ok (.getfield 33, 3) := by decide +kernel
theorem dX11_now_91 : decode cX11_now 91 = .ok (.bipush 7, 2) := by decide +kernel
theorem dX11_now_93 : decode cX11_now 93 = .ok (.iaload, 1) := by decide +kernel
theorem dX11_now_94 : decode cX11_now 94 = .ok (.ireturn, 1) := by decide +kernel
theorem dX11_now_95 : decode cX11_now 95 = .ok (.aload_n 0, 1) := by decide +kernel
theorem dX11_now_96 : decode cX11_now 96 = .ok (.getfield 33, 3) := by decide +kernel
theorem dX11_now_99 : decode cX11_now 99 = .ok (.iconst 5, 1) := by decide +kernel
theorem dX11_now_100 : decode cX11_now 100 = .ok (.iaload, 1) := by decide +kernel
theorem dX11_now_101 : decode cX11_now 101 = .ok (.ireturn, 1) := by decide +kernel
theorem dX11_now_102 : decode cX11_now 102 = .ok (.aload_n 0, 1) := by decide +kernel
theorem dX11_now_103 : decode cX11_now 103 = .ok (.invokevirtual 295, 3) := by decide +kernel
theorem dX11_now_106 : decode cX11_now 106 = .ok (.ireturn, 1) := by decide +kernel
theorem dX11_now_107 : decode cX11_now 107 = .ok (.aload_n 0, 1) := by decide +kernel
theorem dX11_now_108 : decode cX11_now 108 = .ok (.getfield 33, 3) := by decide +kernel
theorem dX11_now_111 : decode cX11_now 111 = .ok (.bipush 6, 2) := by decide +kernel
theorem dX11_now_113 : decode cX11_now 113 = .ok (.iaload, 1) := by decide +kernel
theorem dX11_now_114 : decode cX11_now 114 = .ok (.ireturn, 1) := by decide +kernel
theorem dX11_now_115 : decode cX11_now 115 = .ok (.iload_n 2, 1) := by decide +kernel
theorem dX11_now_116 : decode cX11_now 116 = .ok (.ireturn, 1) := by decide +kernel
theorem dX11_now_117 : decode cX11_now 117 = .ok (.iconst (-1), 1) := by decide +kernel
theorem dX11_now_118 : decode cX11_now 118 = .ok (.ireturn, 1) := by decide +kernel
theorem dX11_odds_0 : decode cX11_odds 0 = .ok (.aload_n 0, 1) := by decide +kernel
theorem dX11_odds_1 : decode cX11_odds 1 = .ok (.aload_n 0, 1) := by decide +kernel
theorem dX11_odds_2 : decode cX11_odds 2 = .ok (.iload_n 1, 1) := by decide +kernel
theorem dX11_odds_3 : decode cX11_odds 3 = .ok (.invokevirtual 282, 3) := by decide +kernel
theorem dX11_odds_6 : decode cX11_odds 6 = .ok (.ifCond .eq 42, 3) := by decide +kernel
theorem dX11_odds_48 : decode cX11_odds 48 = .ok (.iconst 1, 1) := by decide +kernel
theorem dX11_odds_49 : decode cX11_odds 49 = .ok (.goto 4, 3) := by decide +kernel
theorem dX11_odds_53 : decode cX11_odds 53 = .ok (.invokevirtual 288, 3) := by decide +kernel
theorem dX11_odds_56 : decode cX11_odds 56 = .ok (.ifCond .eq 5, 3) := by decide +kernel
theorem dX11_odds_59 : decode cX11_odds 59 = .ok (.lconst 0, 1) := by decide +kernel
theorem dX11_odds_60 : decode cX11_odds 60 = .ok (.lreturn, 1) := by decide +kernel
theorem dX11_open_0 : decode cX11_open 0 = .ok (.aload_n 0, 1) := by decide +kernel
theorem dX11_open_1 : decode cX11_open 1 = .ok (.iconst 0, 1) := by decide +kernel
theorem dX11_open_2 : decode cX11_open 2 = .ok (.putfield 1, 3) := by decide +kernel
theorem dX11_open_5 : decode cX11_open 5 = .ok (.aload_n 0, 1) := by decide +kernel
theorem dX11_open_6 : decode cX11_open 6 = .ok (.invokevirtual 397, 3) := by decide +kernel
theorem dX11_open_9 : decode cX11_open 9 = .ok (.ireturn, 1) := by decide +kernel
theorem dX11_openOf_0 : decode cX11_openOf 0 = .ok (.aload_n 0, 1) := by decide +kernel
theorem dX11_openOf_1 : decode cX11_openOf 1 = .ok (.iconst (-1), 1) := by decide +kernel
theorem dX11_openOf_2 : decode cX11_openOf 2 = .ok (.putfield 391, 3) := by decide +kernel
theorem dX11_openOf_5 : decode cX11_openOf 5 = .ok (.aload_n 0, 1) := by decide +kernel
theorem dX11_openOf_6 : decode cX11_openOf 6 = .ok (.getfield 33, 3) := by decide +kernel
theorem dX11_openOf_9 : decode cX11_openOf 9 = .ok (.iconst 1, 1) := by decide +kernel
theorem dX11_openOf_10 : decode cX11_openOf 10 = .ok (.iaload, 1) := by decide +kernel
theorem dX11_openOf_11 : decode cX11_openOf 11 = .ok (.iconst 2, 1) := by decide +kernel
theorem dX11_openOf_12 : decode cX11_openOf 12 = .ok (.if_icmp .ne 34, 3) := by decide +kernel
theorem dX11_openOf_46 : decode cX11_openOf 46 = .ok (.bipush (-101), 2) := by decide +kernel
theorem dX11_openOf_48 : decode cX11_openOf 48 = .ok (.ireturn, 1) := by decide +kernel
theorem dX11_operand_0 : decode cX11_operand 0 = .ok (.aload_n 0, 1) := by decide +kernel
theorem dX11_operand_1 : decode cX11_operand 1 = .ok (.ldc2_w 137, 3) := by decide +kernel
theorem dX11_operand_4 : decode cX11_operand 4 = .ok (.invokevirtual 202, 3) := by decide +kernel
theorem dX11_operand_7 : decode cX11_operand 7 = .ok (.istore_n 1, 1) := by decide +kernel
theorem dX11_operand_8 : decode cX11_operand 8 = .ok (.aload_n 0, 1) := by decide +kernel
theorem dX11_operand_9 : decode cX11_operand 9 = .ok (.bipush 40, 2) := by decide +kernel
theorem dX11_operand_11 : decode cX11_operand 11 = .ok (.invokevirtual 186, 3) := by decide +kernel
theorem dX11_operand_14 : decode cX11_operand 14 = .ok (.istore_n 2, 1) := by decide +kernel
theorem dX11_operand_15 : decode cX11_operand 15 = .ok (.aload_n 0, 1) := by decide +kernel
theorem dX11_operand_16 : decode cX11_operand 16 = .ok (.invokevirtual 461, 3) := by decide +kernel
theorem dX11_operand_19 : decode cX11_operand 19 = .ok (.istore_n 3, 1) := by decide +kernel
theorem dX11_operand_20 : decode cX11_operand 20 = .ok (.iload_n 1, 1) := by decide +kernel
theorem dX11_operand_21 : decode cX11_operand 21 = .ok (.ifCond .ne 17, 3) := by decide +kernel
theorem dX11_operand_24 : decode cX11_operand 24 = .ok (.iload_n 2, 1) := by decide +kernel
theorem dX11_operand_25 : decode cX11_operand 25 = .ok (.ifCond .ne 13, 3) := by decide +kernel
theorem dX11_operand_28 : decode cX11_operand 28 = .ok (.iload_n 3, 1) := by decide +kernel
theorem dX11_operand_29 : decode cX11_operand 29 = .ok (.ifCond .ge 9, 3) := by decide +kernel
theorem dX11_operand_32 : decode cX11_operand 32 = .ok (.aload_n 0, 1) := by decide +kernel
theorem dX11_operand_33 : decode cX11_operand 33 = .ok (.iconst 1, 1) := by decide +kernel
theorem dX11_operand_34 : decode cX11_operand 34 = .ok (.invokevirtual 189, 3) := by decide +kernel
theorem dX11_operand_37 : decode cX11_operand 37 = .ok (.ireturn, 1) := by decide +kernel
theorem dX11_peek_0 : decode cX11_peek 0 = .ok (.aload_n 0, 1) := by decide +kernel
theorem dX11_peek_1 : decode cX11_peek 1 = .ok (.getfield 21, 3) := by decide +kernel
theorem dX11_peek_4 : decode cX11_peek 4 = .ok (.aload_n 0, 1) := by decide +kernel
theorem dX11_peek_5 : decode cX11_peek 5 = .ok (.getfield 18, 3) := by decide +kernel
theorem dX11_peek_8 : decode cX11_peek 8 = .ok (.if_icmp .ge 19, 3) := by decide +kernel
theorem dX11_peek_27 : decode cX11_peek 27 = .ok (.iconst (-1), 1) := by decide +kernel
theorem dX11_peek_28 : decode cX11_peek 28 = .ok (.ireturn, 1) := by decide +kernel
theorem dX11_person_0 : decode cX11_person 0 = .ok (.aload_n 0, 1) := by decide +kernel
theorem dX11_person_1 : decode cX11_person 1 = .ok (.iconst 0, 1) := by decide +kernel
theorem dX11_person_2 : decode cX11_person 2 = .ok (.putfield 1, 3) := by decide +kernel
theorem dX11_person_5 : decode cX11_person 5 = .ok (.aload_n 0, 1) := by decide +kernel
theorem dX11_person_6 : decode cX11_person 6 = .ok (.iload_n 1, 1) := by decide +kernel
theorem dX11_person_7 : decode cX11_person 7 = .ok (.invokevirtual 282, 3) := by decide +kernel
theorem dX11_person_10 : decode cX11_person 10 = .ok (.ifCond .ne 5, 3) := by decide +kernel
theorem dX11_person_13 : decode cX11_person 13 = .ok (.iconst (-1), 1) := by decide +kernel
theorem dX11_person_14 : decode cX11_person 14 = .ok (.ireturn, 1) := by decide +kernel
theorem dX11_play_0 : decode cX11_play 0 = .ok (.aload_n 0, 1) := by decide +kernel
theorem dX11_play_1 : decode cX11_play 1 = .ok (.iconst 0, 1) := by decide +kernel
theorem dX11_play_2 : decode cX11_play 2 = .ok (.putfield 1, 3) := by decide +kernel
theorem dX11_play_5 : decode cX11_play 5 = .ok (.aload_n 0, 1) := by decide +kernel
theorem dX11_play_6 : decode cX11_play 6 = .ok (.sipush 940, 3) := by decide +kernel
theorem dX11_play_9 : decode cX11_play 9 = .ok (.invokevirtual 234, 3) := by decide +kernel
theorem dX11_play_12 : decode cX11_play 12 = .ok (.iload_n 1, 1) := by decide +kernel
theorem dX11_play_13 : decode cX11_play 13 = .ok (.iconst 1, 1) := by decide +kernel
theorem dX11_play_14 : decode cX11_play 14 = .ok (.sipush 400, 3) := by decide +kernel
theorem dX11_play_17 : decode cX11_play 17 = .ok (.invokestatic 195, 3) := by decide +kernel
theorem dX11_play_20 : decode cX11_play 20 = .ok (.ifCond .eq 26, 3) := by decide +kernel
theorem dX11_play_23 : decode cX11_play 23 = .ok (.aload_n 0, 1) := by decide +kernel
theorem dX11_play_24 : decode cX11_play 24 = .ok (.getfield 33, 3) := by decide +kernel
theorem dX11_play_27 : decode cX11_play 27 = .ok (.iconst 1, 1) := by decide +kernel
theorem dX11_play_28 : decode cX11_play 28 = .ok (.iaload, 1) := by decide +kernel
theorem dX11_play_29 : decode cX11_play 29 = .ok (.iconst 2, 1) := by decide +kernel
theorem dX11_play_30 : decode cX11_play 30 = .ok (.if_icmp .lt 16, 3) := by decide +kernel
theorem dX11_play_46 : decode cX11_play 46 = .ok (.iconst (-1), 1) := by decide +kernel
theorem dX11_play_47 : decode cX11_play 47 = .ok (.ireturn, 1) := by decide +kernel
theorem dX11_reply_0 : decode cX11_reply 0 = .ok (.aload_n 0, 1) := by decide +kernel
theorem dX11_reply_1 : decode cX11_reply 1 = .ok (.iconst 0, 1) := by decide +kernel
theorem dX11_reply_2 : decode cX11_reply 2 = .ok (.putfield 1, 3) := by decide +kernel
theorem dX11_reply_5 : decode cX11_reply 5 = .ok (.aload_n 0, 1) := by decide +kernel
theorem dX11_reply_6 : decode cX11_reply 6 = .ok (.iconst 0, 1) := by decide +kernel
theorem dX11_reply_7 : decode cX11_reply 7 = .ok (.iload_n 1, 1) := by decide +kernel
theorem dX11_reply_8 : decode cX11_reply 8 = .ok (.iload_n 2, 1) := by decide +kernel
theorem dX11_reply_9 : decode cX11_reply 9 = .ok (.invokevirtual 432, 3) := by decide +kernel
theorem dX11_reply_12 : decode cX11_reply 12 = .ok (.ifCond .ne 5, 3) := by decide +kernel
theorem dX11_reply_15 : decode cX11_reply 15 = .ok (.iconst (-1), 1) := by decide +kernel
theorem dX11_reply_16 : decode cX11_reply 16 = .ok (.ireturn, 1) := by decide +kernel
theorem dX11_restore_0 : decode cX11_restore 0 = .ok (.aload_n 0, 1) := by decide +kernel
theorem dX11_restore_1 : decode cX11_restore 1 = .ok (.iconst 0, 1) := by decide +kernel
theorem dX11_restore_2 : decode cX11_restore 2 = .ok (.putfield 1, 3) := by decide +kernel
theorem dX11_restore_5 : decode cX11_restore 5 = .ok (.iload_n 1, 1) := by decide +kernel
theorem dX11_restore_6 : decode cX11_restore 6 = .ok (.iconst 0, 1) := by decide +kernel
theorem dX11_restore_7 : decode cX11_restore 7 = .ok (.iconst 1, 1) := by decide +kernel
theorem dX11_restore_8 : decode cX11_restore 8 = .ok (.invokestatic 195, 3) := by decide +kernel
theorem dX11_restore_11 : decode cX11_restore 11 = .ok (.ifCond .eq 12, 3) := by decide +kernel
theorem dX11_restore_14 : decode cX11_restore 14 = .ok (.aload_n 0, 1) := by decide +kernel
theorem dX11_restore_15 : decode cX11_restore 15 = .ok (.getfield 112, 3) := by decide +kernel
theorem dX11_restore_18 : decode cX11_restore 18 = .ok (.iload_n 1, 1) := by decide +kernel
theorem dX11_restore_19 : decode cX11_restore 19 = .ok (.baload, 1) := by decide +kernel
theorem dX11_restore_20 : decode cX11_restore 20 = .ok (.ifCond .ne 5, 3) := by decide +kernel
theorem dX11_restore_23 : decode cX11_restore 23 = .ok (.iconst 0, 1) := by decide +kernel
theorem dX11_restore_24 : decode cX11_restore 24 = .ok (.ireturn, 1) := by decide +kernel
theorem dX11_said_0 : decode cX11_said 0 = .ok (.aload_n 0, 1) := by decide +kernel
theorem dX11_said_1 : decode cX11_said 1 = .ok (.iconst 0, 1) := by decide +kernel
theorem dX11_said_2 : decode cX11_said 2 = .ok (.putfield 1, 3) := by decide +kernel
theorem dX11_said_5 : decode cX11_said 5 = .ok (.aload_n 0, 1) := by decide +kernel
theorem dX11_said_6 : decode cX11_said 6 = .ok (.getfield 33, 3) := by decide +kernel
theorem dX11_said_9 : decode cX11_said 9 = .ok (.sipush 584, 3) := by decide +kernel
theorem dX11_said_12 : decode cX11_said 12 = .ok (.iaload, 1) := by decide +kernel
theorem dX11_said_13 : decode cX11_said 13 = .ok (.ifCond .eq 8, 3) := by decide +kernel
theorem dX11_said_21 : decode cX11_said 21 = .ok (.iconst (-1), 1) := by decide +kernel
theorem dX11_said_22 : decode cX11_said 22 = .ok (.ireturn, 1) := by decide +kernel
theorem dX11_sentence_0 : decode cX11_sentence 0 = .ok (.aload_n 0, 1) := by decide +kernel
theorem dX11_sentence_1 : decode cX11_sentence 1 = .ok (.iconst 0, 1) := by decide +kernel
theorem dX11_sentence_2 : decode cX11_sentence 2 = .ok (.putfield 1, 3) := by decide +kernel
theorem dX11_sentence_5 : decode cX11_sentence 5 = .ok (.aload_n 0, 1) := by decide +kernel
theorem dX11_sentence_6 : decode cX11_sentence 6 = .ok (.sipush 200, 3) := by decide +kernel
theorem dX11_sentence_9 : decode cX11_sentence 9 = .ok (.invokevirtual 234, 3) := by decide +kernel
theorem dX11_sentence_12 : decode cX11_sentence 12 = .ok (.aload_n 0, 1) := by decide +kernel
theorem dX11_sentence_13 : decode cX11_sentence 13 = .ok (.iconst 0, 1) := by decide +kernel
theorem dX11_sentence_14 : decode cX11_sentence 14 = .ok (.putfield 180, 3) := by decide +kernel
theorem dX11_sentence_17 : decode cX11_sentence 17 = .ok (.aload_n 0, 1) := by decide +kernel
theorem dX11_sentence_18 : decode cX11_sentence 18 = .ok (.iconst 0, 1) := by decide +kernel
theorem dX11_sentence_19 : decode cX11_sentence 19 = .ok (.putfield 448, 3) := by decide +kernel
theorem dX11_sentence_22 : decode cX11_sentence 22 = .ok (.aload_n 0, 1) := by decide +kernel
theorem dX11_sentence_23 : decode cX11_sentence 23 = .ok (.iconst 0, 1) := by decide +kernel
theorem dX11_sentence_24 : decode cX11_sentence 24 = .ok (.putfield 464, 3) := by decide +kernel
theorem dX11_sentence_27 : decode cX11_sentence 27 = .ok (.aload_n 0, 1) := by decide +kernel
theorem dX11_sentence_28 : decode cX11_sentence 28 = .ok (.iconst 0, 1) := by decide +kernel
theorem dX11_sentence_29 : decode cX11_sentence 29 = .ok (.putfield 451, 3) := by decide +kernel
theorem dX11_sentence_32 : decode cX11_sentence 32 = .ok (.aload_n 0, 1) := by decide +kernel
theorem dX11_sentence_33 : decode cX11_sentence 33 = .ok (.iconst 1, 1) := by decide +kernel
theorem dX11_sentence_34 : decode cX11_sentence 34 = .ok (.putfield 458, 3) := by decide +kernel
theorem dX11_sentence_37 : decode cX11_sentence 37 = .ok (.aload_n 0, 1) := by decide +kernel
theorem dX11_sentence_38 : decode cX11_sentence 38 = .ok (.iconst 0, 1) := by decide +kernel
theorem dX11_sentence_39 : decode cX11_sentence 39 = .ok (.putfield 467, 3) := by decide +kernel
theorem dX11_sentence_42 : decode cX11_sentence 42 = .ok (.aload_n 0, 1) := by decide +kernel
theorem dX11_sentence_43 : decode cX11_sentence 43 = .ok (.invokevirtual 192, 3) := by decide +kernel
theorem dX11_sentence_46 : decode cX11_sentence 46 = .ok (.iconst 1, 1) := by decide +kernel
theorem dX11_sentence_47 : decode cX11_sentence 47 = .ok (.istore_n 1, 1) := by decide +kernel
theorem dX11_sentence_48 : decode cX11_sentence 48 = .ok (.iload_n 1, 1) := by decide +kernel
theorem dX11_sentence_49 : decode cX11_sentence 49 = .ok (.ifCond .eq 83, 3) := by decide +kernel
theorem dX11_sentence_52 : decode cX11_sentence 52 = .ok (.aload_n 0, 1) := by decide +kernel
theorem dX11_sentence_53 : decode cX11_sentence 53 = .ok (.getfield 467, 3) := by decide +kernel
theorem dX11_sentence_56 : decode cX11_sentence 56 = .ok (.ifCond .eq 45, 3) := by decide +kernel
theorem dX11_sentence_101 : decode cX11_sentence 101 = .ok (.aload_n 0, 1) := by decide +kernel
theorem dX11_sentence_102 : decode cX11_sentence 102 = .ok (.getfield 467, 3) := by decide +kernel
theorem dX11_sentence_105 : decode cX11_sentence 105 = .ok (.ifCond .eq 13, 3) := by decide +kernel
theorem dX11_sentence_118 : decode cX11_sentence 118 = .ok (.aload_n 0, 1) := by decide +kernel
theorem dX11_sentence_119 : decode cX11_sentence 119 = .ok (.invokevirtual 479, 3) := by decide +kernel
theorem dX11_sentence_122 : decode cX11_sentence 122 = .ok (.ifCond .ne (-74), 3) := by decide +kernel
theorem dX11_sentence_125 : decode cX11_sentence 125 = .ok (.iconst (-1), 1) := by decide +kernel
theorem dX11_sentence_126 : decode cX11_sentence 126 = .ok (.aload_n 0, 1) := by decide +kernel
theorem dX11_sentence_127 : decode cX11_sentence 127 = .ok (.getfield 183, 3) := by decide +kernel
theorem dX11_sentence_130 : decode cX11_sentence 130 = .ok (.isub, 1) := by decide +kernel
theorem dX11_sentence_131 : decode cX11_sentence 131 = .ok (.ireturn, 1) := by decide +kernel
theorem dX11_settles_0 : decode cX11_settles 0 = .ok (.aload_n 0, 1) := by decide +kernel
theorem dX11_settles_1 : decode cX11_settles 1 = .ok (.getfield 33, 3) := by decide +kernel
theorem dX11_settles_4 : decode cX11_settles 4 = .ok (.iconst 4, 1) := by decide +kernel
theorem dX11_settles_5 : decode cX11_settles 5 = .ok (.iconst (-1), 1) := by decide +kernel
theorem dX11_settles_6 : decode cX11_settles 6 = .ok (.iastore, 1) := by decide +kernel
theorem dX11_settles_7 : decode cX11_settles 7 = .ok (.iconst 0, 1) := by decide +kernel
theorem dX11_settles_8 : decode cX11_settles 8 = .ok (.istore_n 2, 1) := by decide +kernel
theorem dX11_settles_9 : decode cX11_settles 9 = .ok (.iload_n 2, 1) := by decide +kernel
theorem dX11_settles_10 : decode cX11_settles 10 = .ok (.aload_n 0, 1) := by decide +kernel
theorem dX11_settles_11 : decode cX11_settles 11 = .ok (.getfield 33, 3) := by decide +kernel
theorem dX11_settles_14 : decode cX11_settles 14 = .ok (.iconst 1, 1) := by decide +kernel
theorem dX11_settles_15 : decode cX11_settles 15 = .ok (.iaload, 1) := by decide +kernel
theorem dX11_settles_16 : decode cX11_settles 16 = .ok (.if_icmp .ge 44, 3) := by decide +kernel
theorem dX11_settles_60 : decode cX11_settles 60 = .ok (.return_, 1) := by decide +kernel
theorem dX11_sweep_0 : decode cX11_sweep 0 = .ok (.aload_n 0, 1) := by decide +kernel
theorem dX11_sweep_1 : decode cX11_sweep 1 = .ok (.iconst 0, 1) := by decide +kernel
theorem dX11_sweep_2 : decode cX11_sweep 2 = .ok (.putfield 1, 3) := by decide +kernel
theorem dX11_sweep_5 : decode cX11_sweep 5 = .ok (.aload_n 0, 1) := by decide +kernel
theorem dX11_sweep_6 : decode cX11_sweep 6 = .ok (.iload_n 1, 1) := by decide +kernel
theorem dX11_sweep_7 : decode cX11_sweep 7 = .ok (.invokevirtual 282, 3) := by decide +kernel
theorem dX11_sweep_10 : decode cX11_sweep 10 = .ok (.ifCond .ne 5, 3) := by decide +kernel
theorem dX11_sweep_13 : decode cX11_sweep 13 = .ok (.iconst (-1), 1) := by decide +kernel
theorem dX11_sweep_14 : decode cX11_sweep 14 = .ok (.ireturn, 1) := by decide +kernel
theorem dX11_swept_0 : decode cX11_swept 0 = .ok (.aload_n 0, 1) := by decide +kernel
theorem dX11_swept_1 : decode cX11_swept 1 = .ok (.iconst 0, 1) := by decide +kernel
theorem dX11_swept_2 : decode cX11_swept 2 = .ok (.putfield 1, 3) := by decide +kernel
theorem dX11_swept_5 : decode cX11_swept 5 = .ok (.iload_n 1, 1) := by decide +kernel
theorem dX11_swept_6 : decode cX11_swept 6 = .ok (.iconst 0, 1) := by decide +kernel
theorem dX11_swept_7 : decode cX11_swept 7 = .ok (.aload_n 0, 1) := by decide +kernel
theorem dX11_swept_8 : decode cX11_swept 8 = .ok (.getfield 349, 3) := by decide +kernel
theorem dX11_swept_11 : decode cX11_swept 11 = .ok (.iconst 1, 1) := by decide +kernel
theorem dX11_swept_12 : decode cX11_swept 12 = .ok (.isub, 1) := by decide +kernel
theorem dX11_swept_13 : decode cX11_swept 13 = .ok (.invokestatic 195, 3) := by decide +kernel
theorem dX11_swept_16 : decode cX11_swept 16 = .ok (.ifCond .eq 12, 3) := by decide +kernel
theorem dX11_swept_28 : decode cX11_swept 28 = .ok (.iconst (-1), 1) := by decide +kernel
theorem dX11_swept_29 : decode cX11_swept 29 = .ok (.ireturn, 1) := by decide +kernel
theorem dX11_taken_0 : decode cX11_taken 0 = .ok (.aload_n 0, 1) := by decide +kernel
theorem dX11_taken_1 : decode cX11_taken 1 = .ok (.aload_n 0, 1) := by decide +kernel
theorem dX11_taken_2 : decode cX11_taken 2 = .ok (.getfield 7, 3) := by decide +kernel
theorem dX11_taken_5 : decode cX11_taken 5 = .ok (.putfield 18, 3) := by decide +kernel
theorem dX11_taken_8 : decode cX11_taken 8 = .ok (.aload_n 0, 1) := by decide +kernel
theorem dX11_taken_9 : decode cX11_taken 9 = .ok (.iconst 0, 1) := by decide +kernel
theorem dX11_taken_10 : decode cX11_taken 10 = .ok (.putfield 7, 3) := by decide +kernel
theorem dX11_taken_13 : decode cX11_taken 13 = .ok (.aload_n 0, 1) := by decide +kernel
theorem dX11_taken_14 : decode cX11_taken 14 = .ok (.iconst 0, 1) := by decide +kernel
theorem dX11_taken_15 : decode cX11_taken 15 = .ok (.putfield 21, 3) := by decide +kernel
theorem dX11_taken_18 : decode cX11_taken 18 = .ok (.aload_n 0, 1) := by decide +kernel
theorem dX11_taken_19 : decode cX11_taken 19 = .ok (.iload_n 1, 1) := by decide +kernel
theorem dX11_taken_20 : decode cX11_taken 20 = .ok (.putfield 24, 3) := by decide +kernel
theorem dX11_taken_23 : decode cX11_taken 23 = .ok (.return_, 1) := by decide +kernel
theorem dX11_thrown_0 : decode cX11_thrown 0 = .ok (.aload_n 0, 1) := by decide +kernel
theorem dX11_thrown_1 : decode cX11_thrown 1 = .ok (.getfield 1, 3) := by decide +kernel
theorem dX11_thrown_4 : decode cX11_thrown 4 = .ok (.ireturn, 1) := by decide +kernel
theorem dX11_throwsIf_0 : decode cX11_throwsIf 0 = .ok (.aload_n 0, 1) := by decide +kernel
theorem dX11_throwsIf_1 : decode cX11_throwsIf 1 = .ok (.iload_n 1, 1) := by decide +kernel
theorem dX11_throwsIf_2 : decode cX11_throwsIf 2 = .ok (.ifCond .eq 7, 3) := by decide +kernel
theorem dX11_throwsIf_5 : decode cX11_throwsIf 5 = .ok (.iconst 1, 1) := by decide +kernel
theorem dX11_throwsIf_6 : decode cX11_throwsIf 6 = .ok (.goto 4, 3) := by decide +kernel
theorem dX11_throwsIf_10 : decode cX11_throwsIf 10 = .ok (.putfield 1, 3) := by decide +kernel
theorem dX11_throwsIf_13 : decode cX11_throwsIf 13 = .ok (.iload_n 1, 1) := by decide +kernel
theorem dX11_throwsIf_14 : decode cX11_throwsIf 14 = .ok (.ireturn, 1) := by decide +kernel
theorem dX11_undo_0 : decode cX11_undo 0 = .ok (.aload_n 0, 1) := by decide +kernel
theorem dX11_undo_1 : decode cX11_undo 1 = .ok (.iconst 0, 1) := by decide +kernel
theorem dX11_undo_2 : decode cX11_undo 2 = .ok (.putfield 1, 3) := by decide +kernel
theorem dX11_undo_5 : decode cX11_undo 5 = .ok (.aload_n 0, 1) := by decide +kernel
theorem dX11_undo_6 : decode cX11_undo 6 = .ok (.getfield 246, 3) := by decide +kernel
theorem dX11_undo_9 : decode cX11_undo 9 = .ok (.ifCond .ne 5, 3) := by decide +kernel
theorem dX11_undo_12 : decode cX11_undo 12 = .ok (.iconst (-1), 1) := by decide +kernel
theorem dX11_undo_13 : decode cX11_undo 13 = .ok (.ireturn, 1) := by decide +kernel
theorem dX11_whom_0 : decode cX11_whom 0 = .ok (.aload_n 0, 1) := by decide +kernel
theorem dX11_whom_1 : decode cX11_whom 1 = .ok (.iconst 0, 1) := by decide +kernel
theorem dX11_whom_2 : decode cX11_whom 2 = .ok (.putfield 1, 3) := by decide +kernel
theorem dX11_whom_5 : decode cX11_whom 5 = .ok (.aload_n 0, 1) := by decide +kernel
theorem dX11_whom_6 : decode cX11_whom 6 = .ok (.iload_n 1, 1) := by decide +kernel
theorem dX11_whom_7 : decode cX11_whom 7 = .ok (.invokevirtual 282, 3) := by decide +kernel
theorem dX11_whom_10 : decode cX11_whom 10 = .ok (.ifCond .eq 19, 3) := by decide +kernel
theorem dX11_whom_29 : decode cX11_whom 29 = .ok (.iconst (-1), 1) := by decide +kernel
theorem dX11_whom_30 : decode cX11_whom 30 = .ok (.ireturn, 1) := by decide +kernel
theorem dX11_why_0 : decode cX11_why 0 = .ok (.aload_n 0, 1) := by decide +kernel
theorem dX11_why_1 : decode cX11_why 1 = .ok (.iconst 0, 1) := by decide +kernel
theorem dX11_why_2 : decode cX11_why 2 = .ok (.putfield 1, 3) := by decide +kernel
theorem dX11_why_5 : decode cX11_why 5 = .ok (.aload_n 0, 1) := by decide +kernel
theorem dX11_why_6 : decode cX11_why 6 = .ok (.iload_n 1, 1) := by decide +kernel
theorem dX11_why_7 : decode cX11_why 7 = .ok (.iload_n 2, 1) := by decide +kernel
theorem dX11_why_8 : decode cX11_why 8 = .ok (.iload_n 3, 1) := by decide +kernel
theorem dX11_why_9 : decode cX11_why 9 = .ok (.invokevirtual 298, 3) := by decide +kernel
theorem dX11_why_12 : decode cX11_why 12 = .ok (.ifCond .eq 13, 3) := by decide +kernel
theorem dX11_why_25 : decode cX11_why 25 = .ok (.iconst (-1), 1) := by decide +kernel
theorem dX11_why_26 : decode cX11_why 26 = .ok (.ireturn, 1) := by decide +kernel
theorem dX2_allBooks_0 : decode cX2_allBooks 0 = .ok (.aload_n 0, 1) := by decide +kernel
theorem dX2_allBooks_1 : decode cX2_allBooks 1 = .ok (.getfield 9, 3) := by decide +kernel
theorem dX2_allBooks_4 : decode cX2_allBooks 4 = .ok (.aload_n 0, 1) := by decide +kernel
theorem dX2_allBooks_5 : decode cX2_allBooks 5 = .ok (.iconst (-1), 1) := by decide +kernel
theorem dX2_allBooks_6 : decode cX2_allBooks 6 = .ok (.invokevirtual 105, 3) := by decide +kernel
theorem dX2_allBooks_9 : decode cX2_allBooks 9 = .ok (.isub, 1) := by decide +kernel
theorem dX2_allBooks_10 : decode cX2_allBooks 10 = .ok (.ireturn, 1) := by decide +kernel
theorem dX2_booksOf_0 : decode cX2_booksOf 0 = .ok (.iconst 0, 1) := by decide +kernel
theorem dX2_booksOf_1 : decode cX2_booksOf 1 = .ok (.istore_n 2, 1) := by decide +kernel
theorem dX2_booksOf_2 : decode cX2_booksOf 2 = .ok (.iconst 0, 1) := by decide +kernel
theorem dX2_booksOf_3 : decode cX2_booksOf 3 = .ok (.istore_n 3, 1) := by decide +kernel
theorem dX2_booksOf_4 : decode cX2_booksOf 4 = .ok (.iload_n 3, 1) := by decide +kernel
theorem dX2_booksOf_5 : decode cX2_booksOf 5 = .ok (.aload_n 0, 1) := by decide +kernel
theorem dX2_booksOf_6 : decode cX2_booksOf 6 = .ok (.getfield 9, 3) := by decide +kernel
theorem dX2_booksOf_9 : decode cX2_booksOf 9 = .ok (.if_icmp .ge 22, 3) := by decide +kernel
theorem dX2_booksOf_31 : decode cX2_booksOf 31 = .ok (.iload_n 2, 1) := by decide +kernel
theorem dX2_booksOf_32 : decode cX2_booksOf 32 = .ok (.ireturn, 1) := by decide +kernel
theorem dX2_canDeal_0 : decode cX2_canDeal 0 = .ok (.aload_n 0, 1) := by decide +kernel
theorem dX2_canDeal_1 : decode cX2_canDeal 1 = .ok (.getfield 15, 3) := by decide +kernel
theorem dX2_canDeal_4 : decode cX2_canDeal 4 = .ok (.ifCond .le 29, 3) := by decide +kernel
theorem dX2_canDeal_33 : decode cX2_canDeal 33 = .ok (.iconst 0, 1) := by decide +kernel
theorem dX2_canDeal_34 : decode cX2_canDeal 34 = .ok (.ireturn, 1) := by decide +kernel
theorem dX2_hasKind_0 : decode cX2_hasKind 0 = .ok (.iload_n 1, 1) := by decide +kernel
theorem dX2_hasKind_1 : decode cX2_hasKind 1 = .ok (.ifCond .lt 15, 3) := by decide +kernel
theorem dX2_hasKind_4 : decode cX2_hasKind 4 = .ok (.iload_n 1, 1) := by decide +kernel
theorem dX2_hasKind_5 : decode cX2_hasKind 5 = .ok (.aload_n 0, 1) := by decide +kernel
theorem dX2_hasKind_6 : decode cX2_hasKind 6 = .ok (.getfield 9, 3) := by decide +kernel
theorem dX2_hasKind_9 : decode cX2_hasKind 9 = .ok (.if_icmp .ge 7, 3) := by decide +kernel
theorem dX2_hasKind_16 : decode cX2_hasKind 16 = .ok (.iconst 0, 1) := by decide +kernel
theorem dX2_hasKind_17 : decode cX2_hasKind 17 = .ok (.ireturn, 1) := by decide +kernel
theorem dX2_hasPerson_0 : decode cX2_hasPerson 0 = .ok (.iload_n 1, 1) := by decide +kernel
theorem dX2_hasPerson_1 : decode cX2_hasPerson 1 = .ok (.ifCond .lt 15, 3) := by decide +kernel
theorem dX2_hasPerson_4 : decode cX2_hasPerson 4 = .ok (.iload_n 1, 1) := by decide +kernel
theorem dX2_hasPerson_5 : decode cX2_hasPerson 5 = .ok (.aload_n 0, 1) := by decide +kernel
theorem dX2_hasPerson_6 : decode cX2_hasPerson 6 = .ok (.getfield 15, 3) := by decide +kernel
theorem dX2_hasPerson_9 : decode cX2_hasPerson 9 = .ok (.if_icmp .ge 7, 3) := by decide +kernel
theorem dX2_hasPerson_16 : decode cX2_hasPerson 16 = .ok (.iconst 0, 1) := by decide +kernel
theorem dX2_hasPerson_17 : decode cX2_hasPerson 17 = .ok (.ireturn, 1) := by decide +kernel
theorem dX2_heapSize_0 : decode cX2_heapSize 0 = .ok (.aload_n 0, 1) := by decide +kernel
theorem dX2_heapSize_1 : decode cX2_heapSize 1 = .ok (.getfield 42, 3) := by decide +kernel
theorem dX2_heapSize_4 : decode cX2_heapSize 4 = .ok (.aload_n 0, 1) := by decide +kernel
theorem dX2_heapSize_5 : decode cX2_heapSize 5 = .ok (.getfield 39, 3) := by decide +kernel
theorem dX2_heapSize_8 : decode cX2_heapSize 8 = .ok (.isub, 1) := by decide +kernel
theorem dX2_heapSize_9 : decode cX2_heapSize 9 = .ok (.ireturn, 1) := by decide +kernel
theorem dX2_loose_0 : decode cX2_loose 0 = .ok (.aload_n 0, 1) := by decide +kernel
theorem dX2_loose_1 : decode cX2_loose 1 = .ok (.invokevirtual 101, 3) := by decide +kernel
theorem dX2_loose_4 : decode cX2_loose 4 = .ok (.istore_n 1, 1) := by decide +kernel
theorem dX2_loose_5 : decode cX2_loose 5 = .ok (.iconst 0, 1) := by decide +kernel
theorem dX2_loose_6 : decode cX2_loose 6 = .ok (.istore_n 2, 1) := by decide +kernel
theorem dX2_loose_7 : decode cX2_loose 7 = .ok (.iload_n 2, 1) := by decide +kernel
theorem dX2_loose_8 : decode cX2_loose 8 = .ok (.aload_n 0, 1) := by decide +kernel
theorem dX2_loose_9 : decode cX2_loose 9 = .ok (.getfield 15, 3) := by decide +kernel
theorem dX2_loose_12 : decode cX2_loose 12 = .ok (.if_icmp .ge 18, 3) := by decide +kernel
theorem dX2_loose_30 : decode cX2_loose 30 = .ok (.iload_n 1, 1) := by decide +kernel
theorem dX2_loose_31 : decode cX2_loose 31 = .ok (.ireturn, 1) := by decide +kernel
theorem dX5_takeBack_0 : decode cX5_takeBack 0 = .ok (.aload_n 0, 1) := by decide +kernel
theorem dX5_takeBack_1 : decode cX5_takeBack 1 = .ok (.getfield 15, 3) := by decide +kernel
theorem dX5_takeBack_4 : decode cX5_takeBack 4 = .ok (.ifCond .le 12, 3) := by decide +kernel
theorem dX5_takeBack_16 : decode cX5_takeBack 16 = .ok (.bipush 7, 2) := by decide +kernel
theorem dX5_takeBack_18 : decode cX5_takeBack 18 = .ok (.istore_n 2, 1) := by decide +kernel
theorem dX5_takeBack_19 : decode cX5_takeBack 19 = .ok (.aload_n 0, 1) := by decide +kernel
theorem dX5_takeBack_20 : decode cX5_takeBack 20 = .ok (.getfield 19, 3) := by decide +kernel
theorem dX5_takeBack_23 : decode cX5_takeBack 23 = .ok (.ifCond .eq 12, 3) := by decide +kernel
theorem dX5_takeBack_35 : decode cX5_takeBack 35 = .ok (.iconst 0, 1) := by decide +kernel
theorem dX5_takeBack_36 : decode cX5_takeBack 36 = .ok (.ireturn, 1) := by decide +kernel
end
section
set_option maxHeartbeats 4000000 in
set_option maxRecDepth 100000 in
theorem c_X2_hasPerson (l : Launch) (D : va_G) (y : Nat → ClassId) (sz : Nat) (g : Nat) (fg : List Value) (p0 : Int32) (hg_1 : fg[1]? = some (.int 0)) : Met l yX2_hasPerson (px_w yX2_hasPerson cX2_hasPerson 2 (some .boolean)) ({ frames := 0, cells := 0, slots := 0, locals := 0 }) (va_Pc [.ref g, .int p0] (px_P D y sz [(g, .inr (2, fg))])) (vp_Si (fun r : Int32 => r = 0)) 0 0 (fun _ => False) := by
  refine Met.ofW (cc := cX2_hasPerson) (maxL := 2) (ret := (some .boolean)) (by decide) rfl ?_
  intro p e s m args below meth c s₁ B hml hv
  obtain ⟨rfl, hsz, hP, hK, hD0⟩ := hv
  have hx := B.exec
  have hb := B.bytes
  have hr := B.returns
  have hts := atoms_spec (ws := px_w yX2_hasPerson cX2_hasPerson 2 (some .boolean)) B.pre
  have hg : ∀ w ∈ gw, w.before [.ref g, .int p0].toArray s = true := fun w h => hts w (List.mem_cons_of_mem _ h)
  have hown : s.vm.findClass RX2 = some m.cls := findClass_of_methodNamed B.named
  have hlocks := B.notSynchronized
  subst hsz
  have hD := hD0
  have hP : va_P D vwCl [(g, .inr (2, fg))] s.heap := hP
  have hl := lv_entry ([.ref g, .int p0]) (n := 2) (Nat.le_of_ble_eq_true rfl)
  rw [lg_entry_eq]
  generalize (lg_sl ([.ref g, .int p0]) ++ List.replicate (2 - (lg_sl ([.ref g, .int p0])).length) Slot.unset).toArray = ls at hl ⊢
  have hl : lv_has ls 2 [(0, .ref g), (1, .int p0)] := hl
  refine lv_iload_n hx hb dX2_hasPerson_0 rfl (lv_at hl 1 rfl) ?_
  refine lv_if_lt (tgt := 16) hx hb dX2_hasPerson_1 (by decide) (fun c_1 => ?_) (fun c_1 => ?_)
  · refine lv_iconst (v := 0) hx hb dX2_hasPerson_16 (by decide) ?_
    exact W.zret (v := 0) hx hb hr (by decide) (fun t ht hW => ⟨_, rfl, rfl, ht⟩) (fun q h => by cases h) dX2_hasPerson_17
  · refine lv_iload_n hx hb dX2_hasPerson_4 rfl (lv_at hl 1 rfl) ?_
    refine lv_aload_n hx hb dX2_hasPerson_5 rfl (lv_at hl 0 rfl) ?_
    refine va_get (D := D) (ci := 2) (v := .int 0) (C := RX2) (T := TX2) (N := 18) hx hb hg inGX2 hown hK hP 0 rfl rfl 1 (by decide) (hg _ q_1_70) (fun _ h9 => h9) hg_1 dX2_hasPerson_6 ?_
    refine lv_icmp_ge (tgt := 16) hx hb dX2_hasPerson_9 (by decide) (fun c_2 => ?_) (fun c_2 => (by exfalso; simp only [Int32.lt_iff_toInt_lt, Int32.le_iff_toInt_le, ← Int32.toInt_inj] at c_1 c_2; have e0 : (0 : Int32).toInt = 0 := rfl; omega))
    refine lv_iconst (v := 0) hx hb dX2_hasPerson_16 (by decide) ?_
    exact W.zret (v := 0) hx hb hr (by decide) (fun t ht hW => ⟨_, rfl, rfl, ht⟩) (fun q h => by cases h) dX2_hasPerson_17

set_option maxHeartbeats 4000000 in
set_option maxRecDepth 100000 in
theorem c_X2_hasKind (l : Launch) (D : va_G) (y : Nat → ClassId) (sz : Nat) (g : Nat) (fg : List Value) (p0 : Int32) (hg_0 : fg[0]? = some (.int 0)) : Met l yX2_hasKind (px_w yX2_hasKind cX2_hasKind 2 (some .boolean)) ({ frames := 0, cells := 0, slots := 0, locals := 0 }) (va_Pc [.ref g, .int p0] (px_P D y sz [(g, .inr (2, fg))])) (vp_Si (fun r : Int32 => r = 0)) 0 0 (fun _ => False) := by
  refine Met.ofW (cc := cX2_hasKind) (maxL := 2) (ret := (some .boolean)) (by decide) rfl ?_
  intro p e s m args below meth c s₁ B hml hv
  obtain ⟨rfl, hsz, hP, hK, hD0⟩ := hv
  have hx := B.exec
  have hb := B.bytes
  have hr := B.returns
  have hts := atoms_spec (ws := px_w yX2_hasKind cX2_hasKind 2 (some .boolean)) B.pre
  have hg : ∀ w ∈ gw, w.before [.ref g, .int p0].toArray s = true := fun w h => hts w (List.mem_cons_of_mem _ h)
  have hown : s.vm.findClass RX2 = some m.cls := findClass_of_methodNamed B.named
  have hlocks := B.notSynchronized
  subst hsz
  have hD := hD0
  have hP : va_P D vwCl [(g, .inr (2, fg))] s.heap := hP
  have hl := lv_entry ([.ref g, .int p0]) (n := 2) (Nat.le_of_ble_eq_true rfl)
  rw [lg_entry_eq]
  generalize (lg_sl ([.ref g, .int p0]) ++ List.replicate (2 - (lg_sl ([.ref g, .int p0])).length) Slot.unset).toArray = ls at hl ⊢
  have hl : lv_has ls 2 [(0, .ref g), (1, .int p0)] := hl
  refine lv_iload_n hx hb dX2_hasKind_0 rfl (lv_at hl 1 rfl) ?_
  refine lv_if_lt (tgt := 16) hx hb dX2_hasKind_1 (by decide) (fun c_1 => ?_) (fun c_1 => ?_)
  · refine lv_iconst (v := 0) hx hb dX2_hasKind_16 (by decide) ?_
    exact W.zret (v := 0) hx hb hr (by decide) (fun t ht hW => ⟨_, rfl, rfl, ht⟩) (fun q h => by cases h) dX2_hasKind_17
  · refine lv_iload_n hx hb dX2_hasKind_4 rfl (lv_at hl 1 rfl) ?_
    refine lv_aload_n hx hb dX2_hasKind_5 rfl (lv_at hl 0 rfl) ?_
    refine va_get (D := D) (ci := 2) (v := .int 0) (C := RX2) (T := TX2) (N := 18) hx hb hg inGX2 hown hK hP 0 rfl rfl 0 (by decide) (hg _ q_1_64) (fun _ h9 => h9) hg_0 dX2_hasKind_6 ?_
    refine lv_icmp_ge (tgt := 16) hx hb dX2_hasKind_9 (by decide) (fun c_2 => ?_) (fun c_2 => (by exfalso; simp only [Int32.lt_iff_toInt_lt, Int32.le_iff_toInt_le, ← Int32.toInt_inj] at c_1 c_2; have e0 : (0 : Int32).toInt = 0 := rfl; omega))
    refine lv_iconst (v := 0) hx hb dX2_hasKind_16 (by decide) ?_
    exact W.zret (v := 0) hx hb hr (by decide) (fun t ht hW => ⟨_, rfl, rfl, ht⟩) (fun q h => by cases h) dX2_hasKind_17

set_option maxHeartbeats 4000000 in
set_option maxRecDepth 100000 in
theorem c_X10_areSuch (l : Launch) (D : va_G) (y : Nat → ClassId) (sz : Nat) (x : Nat) (fx : List Value) (g : Nat) (fg : List Value) (p0 : Int32) (p1 : Int32) (p2 : Int32) (hx_3 : fx[3]? = some (.ref g)) (hg_1 : fg[1]? = some (.int 0)) : Met l yX10_areSuch (px_w yX10_areSuch cX10_areSuch 4 (some .boolean)) ({ frames := 1, cells := 0, slots := 0, locals := 21 }) (va_Pc [.ref x, .int p0, .int p1, .int p2] (px_P D y sz [(x, .inr (10, fx)), (g, .inr (2, fg))])) (vp_Si (fun r : Int32 => r = 0)) 0 0 (fun _ => False) := by
  refine Met.ofW (cc := cX10_areSuch) (maxL := 4) (ret := (some .boolean)) (by decide) rfl ?_
  intro p e s m args below meth c s₁ B hml hv
  obtain ⟨rfl, hsz, hP, hK, hD0⟩ := hv
  have hx := B.exec
  have hb := B.bytes
  have hr := B.returns
  have hts := atoms_spec (ws := px_w yX10_areSuch cX10_areSuch 4 (some .boolean)) B.pre
  have hg : ∀ w ∈ gw, w.before [.ref x, .int p0, .int p1, .int p2].toArray s = true := fun w h => hts w (List.mem_cons_of_mem _ h)
  have hown : s.vm.findClass RX10 = some m.cls := findClass_of_methodNamed B.named
  have hlocks := B.notSynchronized
  subst hsz
  have hD := hD0
  have hP : va_P D vwCl [(x, .inr (10, fx)), (g, .inr (2, fg))] s.heap := hP
  have hl := lv_entry ([.ref x, .int p0, .int p1, .int p2]) (n := 4) (Nat.le_of_ble_eq_true rfl)
  rw [lg_entry_eq]
  generalize (lg_sl ([.ref x, .int p0, .int p1, .int p2]) ++ List.replicate (4 - (lg_sl ([.ref x, .int p0, .int p1, .int p2])).length) Slot.unset).toArray = ls at hl ⊢
  have hl : lv_has ls 4 [(0, .ref x), (1, .int p0), (2, .int p1), (3, .int p2)] := hl
  refine lv_aload_n hx hb dX10_areSuch_0 rfl (lv_at hl 0 rfl) ?_
  refine va_get (D := D) (ci := 10) (v := .ref g) (C := RX10) (T := TX10) (N := 20) hx hb hg inGX10 hown hK hP 0 rfl rfl 3 (by decide) (hg _ q_2_106) (fun _ h9 => h9) hx_3 dX10_areSuch_1 ?_
  refine lv_iload_n hx hb dX10_areSuch_4 rfl (lv_at hl 1 rfl) ?_
  have hPc_1 := hP.sub (ws' := [(g, .inr (2, fg))]) [1] rfl
  have hDc_1 := hD.sub (ws' := [(g, .inr (2, fg))]) [1] (by decide) rfl
  refine vp_callSi (va_Run.run (va_runV (As := [.int p0]) (rest := []) ⟨hx, hb, hml, hown, hg⟩ (c_X2_hasPerson l D y s.heap.size g fg p0 hg_1) (cwV 1 hg (px_gV q_3_115 q_3_116 q_3_117 q_1_2 q_3_118) rfl rfl rfl (by decide +kernel) ⟨Nat.le_of_ble_eq_true rfl, Nat.le_of_ble_eq_true rfl⟩) (px_preV hK hPc_1 hDc_1 (ci := 2) (q0 := 0) rfl rfl) rfl rfl hl.1 rfl (lv_room (Nat.le_of_ble_eq_true rfl)) dX10_areSuch_5 ⟨Nat.le_of_ble_eq_true rfl, Nat.le_of_ble_eq_true rfl⟩)) (fun r_1 hw_1 => ?_)
  obtain rfl : r_1 = 0 := hw_1
  refine lv_if_eq (tgt := 37) hx hb dX10_areSuch_8 (by decide) (fun _ => ?_) (fun c_2 => absurd c_2 (by decide))
  refine lv_iconst (v := 0) hx hb dX10_areSuch_37 (by decide) ?_
  exact W.zret (v := 0) hx hb hr (by decide) (fun t ht hW => ⟨_, rfl, rfl, ht⟩) (fun q h => by cases h) dX10_areSuch_38

set_option maxHeartbeats 4000000 in
set_option maxRecDepth 100000 in
theorem c_X10_why (l : Launch) (D : va_G) (y : Nat → ClassId) (sz : Nat) (x : Nat) (fx : List Value) (g : Nat) (fg : List Value) (p0 : Int32) (p1 : Int32) (p2 : Int32) (hx_3 : fx[3]? = some (.ref g)) (hg_1 : fg[1]? = some (.int 0)) : Met l yX10_why (px_w yX10_why cX10_why 4 (some .int)) ({ frames := 2, cells := 0, slots := 0, locals := 44 }) (va_Pc [.ref x, .int p0, .int p1, .int p2] (px_P D y sz [(x, .inr (10, fx)), (g, .inr (2, fg))])) (vp_Si (fun r : Int32 => r = (-1))) 0 0 (fun _ => False) := by
  refine Met.ofW (cc := cX10_why) (maxL := 4) (ret := (some .int)) (by decide) rfl ?_
  intro p e s m args below meth c s₁ B hml hv
  obtain ⟨rfl, hsz, hP, hK, hD0⟩ := hv
  have hx := B.exec
  have hb := B.bytes
  have hr := B.returns
  have hts := atoms_spec (ws := px_w yX10_why cX10_why 4 (some .int)) B.pre
  have hg : ∀ w ∈ gw, w.before [.ref x, .int p0, .int p1, .int p2].toArray s = true := fun w h => hts w (List.mem_cons_of_mem _ h)
  have hown : s.vm.findClass RX10 = some m.cls := findClass_of_methodNamed B.named
  have hlocks := B.notSynchronized
  subst hsz
  have hD := hD0
  have hP : va_P D vwCl [(x, .inr (10, fx)), (g, .inr (2, fg))] s.heap := hP
  have hl := lv_entry ([.ref x, .int p0, .int p1, .int p2]) (n := 4) (Nat.le_of_ble_eq_true rfl)
  rw [lg_entry_eq]
  generalize (lg_sl ([.ref x, .int p0, .int p1, .int p2]) ++ List.replicate (4 - (lg_sl ([.ref x, .int p0, .int p1, .int p2])).length) Slot.unset).toArray = ls at hl ⊢
  have hl : lv_has ls 4 [(0, .ref x), (1, .int p0), (2, .int p1), (3, .int p2)] := hl
  refine lv_aload_n hx hb dX10_why_0 rfl (lv_at hl 0 rfl) ?_
  refine lv_iload_n hx hb dX10_why_1 rfl (lv_at hl 1 rfl) ?_
  refine lv_iload_n hx hb dX10_why_2 rfl (lv_at hl 2 rfl) ?_
  refine lv_iload_n hx hb dX10_why_3 rfl (lv_at hl 3 rfl) ?_
  have hPc_1 := hP.sub (ws' := [(x, .inr (10, fx)), (g, .inr (2, fg))]) [0, 1] rfl
  have hDc_1 := hD.sub (ws' := [(x, .inr (10, fx)), (g, .inr (2, fg))]) [0, 1] (by decide) rfl
  refine vp_callSi (va_Run.run (va_runV (As := [.int p0, .int p1, .int p2]) (rest := []) ⟨hx, hb, hml, hown, hg⟩ (c_X10_areSuch l D y s.heap.size x fx g fg p0 p1 p2 hx_3 hg_1) (cwV 3 hg (px_gV q_3_165 q_3_167 q_p_15 q_1_1 q_3_168) rfl rfl rfl (by decide +kernel) ⟨Nat.le_of_ble_eq_true rfl, Nat.le_of_ble_eq_true rfl⟩) (px_preV hK hPc_1 hDc_1 (ci := 10) (q0 := 0) rfl rfl) rfl rfl hl.1 rfl (lv_room (Nat.le_of_ble_eq_true rfl)) dX10_why_4 ⟨Nat.le_of_ble_eq_true rfl, Nat.le_of_ble_eq_true rfl⟩)) (fun r_1 hw_1 => ?_)
  obtain rfl : r_1 = 0 := hw_1
  refine lv_if_eq (tgt := 23) hx hb dX10_why_7 (by decide) (fun _ => ?_) (fun c_2 => absurd c_2 (by decide))
  refine lv_iconst (v := (-1)) hx hb dX10_why_23 (by decide) ?_
  exact W.iret (v := (-1)) hx hb hr (fun t ht hW => ⟨_, rfl, rfl, ht⟩) (fun q h => by cases h) dX10_why_24

set_option maxHeartbeats 4000000 in
set_option maxRecDepth 100000 in
theorem c_X10_fault (l : Launch) (D : va_G) (y : Nat → ClassId) (sz : Nat) (x : Nat) (fx : List Value) (hx_2 : fx[2]? = some (.int 0)) : Met l yX10_fault (px_w yX10_fault cX10_fault 1 (some .int)) ({ frames := 0, cells := 0, slots := 0, locals := 0 }) (va_Pc [.ref x] (px_P D y sz [(x, .inr (10, fx))])) (vp_Si (fun r : Int32 => r = 0)) 0 0 (fun _ => False) := by
  refine Met.ofW (cc := cX10_fault) (maxL := 1) (ret := (some .int)) (by decide) rfl ?_
  intro p e s m args below meth c s₁ B hml hv
  obtain ⟨rfl, hsz, hP, hK, hD0⟩ := hv
  have hx := B.exec
  have hb := B.bytes
  have hr := B.returns
  have hts := atoms_spec (ws := px_w yX10_fault cX10_fault 1 (some .int)) B.pre
  have hg : ∀ w ∈ gw, w.before [.ref x].toArray s = true := fun w h => hts w (List.mem_cons_of_mem _ h)
  have hown : s.vm.findClass RX10 = some m.cls := findClass_of_methodNamed B.named
  have hlocks := B.notSynchronized
  subst hsz
  have hD := hD0
  have hP : va_P D vwCl [(x, .inr (10, fx))] s.heap := hP
  have hl := lv_entry ([.ref x]) (n := 1) (Nat.le_of_ble_eq_true rfl)
  rw [lg_entry_eq]
  generalize (lg_sl ([.ref x]) ++ List.replicate (1 - (lg_sl ([.ref x])).length) Slot.unset).toArray = ls at hl ⊢
  have hl : lv_has ls 1 [(0, .ref x)] := hl
  refine lv_aload_n hx hb dX10_fault_0 rfl (lv_at hl 0 rfl) ?_
  refine va_get (D := D) (ci := 10) (v := .int 0) (C := RX10) (T := TX10) (N := 20) hx hb hg inGX10 hown hK hP 0 rfl rfl 2 (by decide) (hg _ q_2_105) (fun _ h9 => h9) hx_2 dX10_fault_1 ?_
  exact W.iret (v := 0) hx hb hr (fun t ht hW => ⟨_, rfl, rfl, ht⟩) (fun q h => by cases h) dX10_fault_4

set_option maxHeartbeats 4000000 in
set_option maxRecDepth 100000 in
theorem c_X10_book (l : Launch) (D : va_G) (y : Nat → ClassId) (sz : Nat) (x : Nat) (fx : List Value) (g : Nat) (fg : List Value) (p0 : Int32) (hx_3 : fx[3]? = some (.ref g)) (hg_0 : fg[0]? = some (.int 0)) : Met l yX10_book (px_w yX10_book cX10_book 2 (some .int)) ({ frames := 1, cells := 0, slots := 0, locals := 21 }) (va_Pc [.ref x, .int p0] (px_P D y sz [(x, .inr (10, fx)), (g, .inr (2, fg))])) (vp_Si (fun r : Int32 => r = (-1))) 0 0 (fun _ => False) := by
  refine Met.ofW (cc := cX10_book) (maxL := 2) (ret := (some .int)) (by decide) rfl ?_
  intro p e s m args below meth c s₁ B hml hv
  obtain ⟨rfl, hsz, hP, hK, hD0⟩ := hv
  have hx := B.exec
  have hb := B.bytes
  have hr := B.returns
  have hts := atoms_spec (ws := px_w yX10_book cX10_book 2 (some .int)) B.pre
  have hg : ∀ w ∈ gw, w.before [.ref x, .int p0].toArray s = true := fun w h => hts w (List.mem_cons_of_mem _ h)
  have hown : s.vm.findClass RX10 = some m.cls := findClass_of_methodNamed B.named
  have hlocks := B.notSynchronized
  subst hsz
  have hD := hD0
  have hP : va_P D vwCl [(x, .inr (10, fx)), (g, .inr (2, fg))] s.heap := hP
  have hl := lv_entry ([.ref x, .int p0]) (n := 2) (Nat.le_of_ble_eq_true rfl)
  rw [lg_entry_eq]
  generalize (lg_sl ([.ref x, .int p0]) ++ List.replicate (2 - (lg_sl ([.ref x, .int p0])).length) Slot.unset).toArray = ls at hl ⊢
  have hl : lv_has ls 2 [(0, .ref x), (1, .int p0)] := hl
  refine lv_aload_n hx hb dX10_book_0 rfl (lv_at hl 0 rfl) ?_
  refine va_get (D := D) (ci := 10) (v := .ref g) (C := RX10) (T := TX10) (N := 20) hx hb hg inGX10 hown hK hP 0 rfl rfl 3 (by decide) (hg _ q_2_106) (fun _ h9 => h9) hx_3 dX10_book_1 ?_
  refine lv_iload_n hx hb dX10_book_4 rfl (lv_at hl 1 rfl) ?_
  have hPc_1 := hP.sub (ws' := [(g, .inr (2, fg))]) [1] rfl
  have hDc_1 := hD.sub (ws' := [(g, .inr (2, fg))]) [1] (by decide) rfl
  refine vp_callSi (va_Run.run (va_runV (As := [.int p0]) (rest := []) ⟨hx, hb, hml, hown, hg⟩ (c_X2_hasKind l D y s.heap.size g fg p0 hg_0) (cwV 1 hg (px_gV q_3_135 q_3_136 q_3_137 q_1_2 q_3_138) rfl rfl rfl (by decide +kernel) ⟨Nat.le_of_ble_eq_true rfl, Nat.le_of_ble_eq_true rfl⟩) (px_preV hK hPc_1 hDc_1 (ci := 2) (q0 := 0) rfl rfl) rfl rfl hl.1 rfl (lv_room (Nat.le_of_ble_eq_true rfl)) dX10_book_5 ⟨Nat.le_of_ble_eq_true rfl, Nat.le_of_ble_eq_true rfl⟩)) (fun r_1 hw_1 => ?_)
  obtain rfl : r_1 = 0 := hw_1
  refine lv_if_eq (tgt := 23) hx hb dX10_book_8 (by decide) (fun _ => ?_) (fun c_2 => absurd c_2 (by decide))
  refine lv_iconst (v := (-1)) hx hb dX10_book_23 (by decide) ?_
  exact W.iret (v := (-1)) hx hb hr (fun t ht hW => ⟨_, rfl, rfl, ht⟩) (fun q h => by cases h) dX10_book_24

set_option maxHeartbeats 4000000 in
set_option maxRecDepth 100000 in
theorem c_X2_heapSize (l : Launch) (D : va_G) (y : Nat → ClassId) (sz : Nat) (g : Nat) (fg : List Value) (hg_8 : fg[8]? = some (.int 0)) (hg_9 : fg[9]? = some (.int 0)) : Met l yX2_heapSize (px_w yX2_heapSize cX2_heapSize 1 (some .int)) ({ frames := 0, cells := 0, slots := 0, locals := 0 }) (va_Pc [.ref g] (px_P D y sz [(g, .inr (2, fg))])) (vp_Si (fun r : Int32 => r = 0)) 0 0 (fun _ => False) := by
  refine Met.ofW (cc := cX2_heapSize) (maxL := 1) (ret := (some .int)) (by decide) rfl ?_
  intro p e s m args below meth c s₁ B hml hv
  obtain ⟨rfl, hsz, hP, hK, hD0⟩ := hv
  have hx := B.exec
  have hb := B.bytes
  have hr := B.returns
  have hts := atoms_spec (ws := px_w yX2_heapSize cX2_heapSize 1 (some .int)) B.pre
  have hg : ∀ w ∈ gw, w.before [.ref g].toArray s = true := fun w h => hts w (List.mem_cons_of_mem _ h)
  have hown : s.vm.findClass RX2 = some m.cls := findClass_of_methodNamed B.named
  have hlocks := B.notSynchronized
  subst hsz
  have hD := hD0
  have hP : va_P D vwCl [(g, .inr (2, fg))] s.heap := hP
  have hl := lv_entry ([.ref g]) (n := 1) (Nat.le_of_ble_eq_true rfl)
  rw [lg_entry_eq]
  generalize (lg_sl ([.ref g]) ++ List.replicate (1 - (lg_sl ([.ref g])).length) Slot.unset).toArray = ls at hl ⊢
  have hl : lv_has ls 1 [(0, .ref g)] := hl
  refine lv_aload_n hx hb dX2_heapSize_0 rfl (lv_at hl 0 rfl) ?_
  refine va_get (D := D) (ci := 2) (v := .int 0) (C := RX2) (T := TX2) (N := 18) hx hb hg inGX2 hown hK hP 0 rfl rfl 9 (by decide) (hg _ q_1_92) (fun _ h9 => h9) hg_9 dX2_heapSize_1 ?_
  refine lv_aload_n hx hb dX2_heapSize_4 rfl (lv_at hl 0 rfl) ?_
  refine va_get (D := D) (ci := 2) (v := .int 0) (C := RX2) (T := TX2) (N := 18) hx hb hg inGX2 hown hK hP 0 rfl rfl 8 (by decide) (hg _ q_1_89) (fun _ h9 => h9) hg_8 dX2_heapSize_5 ?_
  refine lv_isub hx hb dX2_heapSize_8 ?_
  refine px_top (v := 0) (by decide) ?_
  exact W.iret (v := 0) hx hb hr (fun t ht hW => ⟨_, rfl, rfl, ht⟩) (fun q h => by cases h) dX2_heapSize_9

set_option maxHeartbeats 4000000 in
set_option maxRecDepth 100000 in
theorem c_X10_heap (l : Launch) (D : va_G) (y : Nat → ClassId) (sz : Nat) (x : Nat) (fx : List Value) (g : Nat) (fg : List Value) (p0 : Int32) (hx_3 : fx[3]? = some (.ref g)) (hg_8 : fg[8]? = some (.int 0)) (hg_9 : fg[9]? = some (.int 0)) : Met l yX10_heap (px_w yX10_heap cX10_heap 2 (some .int)) ({ frames := 1, cells := 0, slots := 0, locals := 20 }) (va_Pc [.ref x, .int p0] (px_P D y sz [(x, .inr (10, fx)), (g, .inr (2, fg))])) (vp_Si (fun r : Int32 => r = (-1))) 0 0 (fun _ => False) := by
  refine Met.ofW (cc := cX10_heap) (maxL := 2) (ret := (some .int)) (by decide) rfl ?_
  intro p e s m args below meth c s₁ B hml hv
  obtain ⟨rfl, hsz, hP, hK, hD0⟩ := hv
  have hx := B.exec
  have hb := B.bytes
  have hr := B.returns
  have hts := atoms_spec (ws := px_w yX10_heap cX10_heap 2 (some .int)) B.pre
  have hg : ∀ w ∈ gw, w.before [.ref x, .int p0].toArray s = true := fun w h => hts w (List.mem_cons_of_mem _ h)
  have hown : s.vm.findClass RX10 = some m.cls := findClass_of_methodNamed B.named
  have hlocks := B.notSynchronized
  subst hsz
  have hD := hD0
  have hP : va_P D vwCl [(x, .inr (10, fx)), (g, .inr (2, fg))] s.heap := hP
  have hl := lv_entry ([.ref x, .int p0]) (n := 2) (Nat.le_of_ble_eq_true rfl)
  rw [lg_entry_eq]
  generalize (lg_sl ([.ref x, .int p0]) ++ List.replicate (2 - (lg_sl ([.ref x, .int p0])).length) Slot.unset).toArray = ls at hl ⊢
  have hl : lv_has ls 2 [(0, .ref x), (1, .int p0)] := hl
  refine lv_iload_n hx hb dX10_heap_0 rfl (lv_at hl 1 rfl) ?_
  refine lv_if_lt (tgt := 35) hx hb dX10_heap_1 (by decide) (fun c_1 => ?_) (fun c_1 => ?_)
  · refine lv_iconst (v := (-1)) hx hb dX10_heap_35 (by decide) ?_
    exact W.iret (v := (-1)) hx hb hr (fun t ht hW => ⟨_, rfl, rfl, ht⟩) (fun q h => by cases h) dX10_heap_36
  · refine lv_iload_n hx hb dX10_heap_4 rfl (lv_at hl 1 rfl) ?_
    refine lv_aload_n hx hb dX10_heap_5 rfl (lv_at hl 0 rfl) ?_
    refine va_get (D := D) (ci := 10) (v := .ref g) (C := RX10) (T := TX10) (N := 20) hx hb hg inGX10 hown hK hP 0 rfl rfl 3 (by decide) (hg _ q_2_106) (fun _ h9 => h9) hx_3 dX10_heap_6 ?_
    have hPc_2 := hP.sub (ws' := [(g, .inr (2, fg))]) [1] rfl
    have hDc_2 := hD.sub (ws' := [(g, .inr (2, fg))]) [1] (by decide) rfl
    refine vp_callSi (va_Run.run (va_runV (As := []) (rest := [.int p0]) ⟨hx, hb, hml, hown, hg⟩ (c_X2_heapSize l D y s.heap.size g fg hg_8 hg_9) (cwV 0 hg (px_gV q_3_143 q_3_144 q_3_145 q_1_2 q_3_146) rfl rfl rfl (by decide +kernel) ⟨Nat.le_of_ble_eq_true rfl, Nat.le_of_ble_eq_true rfl⟩) (px_preV hK hPc_2 hDc_2 (ci := 2) (q0 := 0) rfl rfl) rfl rfl hl.1 rfl (lv_room (Nat.le_of_ble_eq_true rfl)) dX10_heap_9 ⟨Nat.le_of_ble_eq_true rfl, Nat.le_of_ble_eq_true rfl⟩)) (fun r_2 hw_2 => ?_)
    obtain rfl : r_2 = 0 := hw_2
    refine lv_icmp_ge (tgt := 35) hx hb dX10_heap_12 (by decide) (fun c_3 => ?_) (fun c_3 => (by exfalso; simp only [Int32.lt_iff_toInt_lt, Int32.le_iff_toInt_le, ← Int32.toInt_inj] at c_1 c_3; have e0 : (0 : Int32).toInt = 0 := rfl; omega))
    refine lv_iconst (v := (-1)) hx hb dX10_heap_35 (by decide) ?_
    exact W.iret (v := (-1)) hx hb hr (fun t ht hW => ⟨_, rfl, rfl, ht⟩) (fun q h => by cases h) dX10_heap_36

set_option maxHeartbeats 4000000 in
set_option maxRecDepth 100000 in
theorem c_X10_person (l : Launch) (D : va_G) (y : Nat → ClassId) (sz : Nat) (x : Nat) (fx : List Value) (g : Nat) (fg : List Value) (p0 : Int32) (p1 : Int32) (hx_3 : fx[3]? = some (.ref g)) (hg_1 : fg[1]? = some (.int 0)) : Met l yX10_person (px_w yX10_person cX10_person 3 (some .int)) ({ frames := 1, cells := 0, slots := 0, locals := 21 }) (va_Pc [.ref x, .int p0, .int p1] (px_P D y sz [(x, .inr (10, fx)), (g, .inr (2, fg))])) (vp_Si (fun r : Int32 => r = (-1))) 0 0 (fun _ => False) := by
  refine Met.ofW (cc := cX10_person) (maxL := 3) (ret := (some .int)) (by decide) rfl ?_
  intro p e s m args below meth c s₁ B hml hv
  obtain ⟨rfl, hsz, hP, hK, hD0⟩ := hv
  have hx := B.exec
  have hb := B.bytes
  have hr := B.returns
  have hts := atoms_spec (ws := px_w yX10_person cX10_person 3 (some .int)) B.pre
  have hg : ∀ w ∈ gw, w.before [.ref x, .int p0, .int p1].toArray s = true := fun w h => hts w (List.mem_cons_of_mem _ h)
  have hown : s.vm.findClass RX10 = some m.cls := findClass_of_methodNamed B.named
  have hlocks := B.notSynchronized
  subst hsz
  have hD := hD0
  have hP : va_P D vwCl [(x, .inr (10, fx)), (g, .inr (2, fg))] s.heap := hP
  have hl := lv_entry ([.ref x, .int p0, .int p1]) (n := 3) (Nat.le_of_ble_eq_true rfl)
  rw [lg_entry_eq]
  generalize (lg_sl ([.ref x, .int p0, .int p1]) ++ List.replicate (3 - (lg_sl ([.ref x, .int p0, .int p1])).length) Slot.unset).toArray = ls at hl ⊢
  have hl : lv_has ls 3 [(0, .ref x), (1, .int p0), (2, .int p1)] := hl
  refine lv_aload_n hx hb dX10_person_0 rfl (lv_at hl 0 rfl) ?_
  refine va_get (D := D) (ci := 10) (v := .ref g) (C := RX10) (T := TX10) (N := 20) hx hb hg inGX10 hown hK hP 0 rfl rfl 3 (by decide) (hg _ q_2_106) (fun _ h9 => h9) hx_3 dX10_person_1 ?_
  refine lv_iload_n hx hb dX10_person_4 rfl (lv_at hl 1 rfl) ?_
  have hPc_1 := hP.sub (ws' := [(g, .inr (2, fg))]) [1] rfl
  have hDc_1 := hD.sub (ws' := [(g, .inr (2, fg))]) [1] (by decide) rfl
  refine vp_callSi (va_Run.run (va_runV (As := [.int p0]) (rest := []) ⟨hx, hb, hml, hown, hg⟩ (c_X2_hasPerson l D y s.heap.size g fg p0 hg_1) (cwV 1 hg (px_gV q_3_115 q_3_116 q_3_117 q_1_2 q_3_118) rfl rfl rfl (by decide +kernel) ⟨Nat.le_of_ble_eq_true rfl, Nat.le_of_ble_eq_true rfl⟩) (px_preV hK hPc_1 hDc_1 (ci := 2) (q0 := 0) rfl rfl) rfl rfl hl.1 rfl (lv_room (Nat.le_of_ble_eq_true rfl)) dX10_person_5 ⟨Nat.le_of_ble_eq_true rfl, Nat.le_of_ble_eq_true rfl⟩)) (fun r_1 hw_1 => ?_)
  obtain rfl : r_1 = 0 := hw_1
  refine lv_if_ne (tgt := 13) hx hb dX10_person_8 (by decide) (fun c_2 => absurd c_2 (by decide)) (fun _ => ?_)
  refine lv_iconst (v := (-1)) hx hb dX10_person_11 (by decide) ?_
  exact W.iret (v := (-1)) hx hb hr (fun t ht hW => ⟨_, rfl, rfl, ht⟩) (fun q h => by cases h) dX10_person_12

set_option maxHeartbeats 4000000 in
set_option maxRecDepth 100000 in
theorem c_X10_ask (l : Launch) (D : va_G) (y : Nat → ClassId) (sz : Nat) (x : Nat) (fx : List Value) (g : Nat) (fg : List Value) (p0 : Int32) (p1 : Int32) (p2 : Int32) (p3 : Int32) (hx_3 : fx[3]? = some (.ref g)) (hg_1 : fg[1]? = some (.int 0)) : Met l yX10_ask (px_w yX10_ask cX10_ask 6 (some .int)) ({ frames := 2, cells := 0, slots := 0, locals := 44 }) (va_Pc [.ref x, .int p0, .int p1, .int p2, .int p3] (px_P D y sz [(x, .inr (10, fx)), (g, .inr (2, fg))])) (vp_Si (fun r : Int32 => r = (-1))) 0 0 (fun _ => False) := by
  refine Met.ofW (cc := cX10_ask) (maxL := 6) (ret := (some .int)) (by decide) rfl ?_
  intro p e s m args below meth c s₁ B hml hv
  obtain ⟨rfl, hsz, hP, hK, hD0⟩ := hv
  have hx := B.exec
  have hb := B.bytes
  have hr := B.returns
  have hts := atoms_spec (ws := px_w yX10_ask cX10_ask 6 (some .int)) B.pre
  have hg : ∀ w ∈ gw, w.before [.ref x, .int p0, .int p1, .int p2, .int p3].toArray s = true := fun w h => hts w (List.mem_cons_of_mem _ h)
  have hown : s.vm.findClass RX10 = some m.cls := findClass_of_methodNamed B.named
  have hlocks := B.notSynchronized
  subst hsz
  have hD := hD0
  have hP : va_P D vwCl [(x, .inr (10, fx)), (g, .inr (2, fg))] s.heap := hP
  have hl := lv_entry ([.ref x, .int p0, .int p1, .int p2, .int p3]) (n := 6) (Nat.le_of_ble_eq_true rfl)
  rw [lg_entry_eq]
  generalize (lg_sl ([.ref x, .int p0, .int p1, .int p2, .int p3]) ++ List.replicate (6 - (lg_sl ([.ref x, .int p0, .int p1, .int p2, .int p3])).length) Slot.unset).toArray = ls at hl ⊢
  have hl : lv_has ls 6 [(0, .ref x), (1, .int p0), (2, .int p1), (3, .int p2), (4, .int p3)] := hl
  refine lv_aload_n hx hb dX10_ask_0 rfl (lv_at hl 0 rfl) ?_
  refine lv_iload_n hx hb dX10_ask_1 rfl (lv_at hl 1 rfl) ?_
  refine lv_iload_n hx hb dX10_ask_2 rfl (lv_at hl 2 rfl) ?_
  refine lv_iload_n hx hb dX10_ask_3 rfl (lv_at hl 3 rfl) ?_
  have hPc_1 := hP.sub (ws' := [(x, .inr (10, fx)), (g, .inr (2, fg))]) [0, 1] rfl
  have hDc_1 := hD.sub (ws' := [(x, .inr (10, fx)), (g, .inr (2, fg))]) [0, 1] (by decide) rfl
  refine vp_callSi (va_Run.run (va_runV (As := [.int p0, .int p1, .int p2]) (rest := []) ⟨hx, hb, hml, hown, hg⟩ (c_X10_areSuch l D y s.heap.size x fx g fg p0 p1 p2 hx_3 hg_1) (cwV 3 hg (px_gV q_3_165 q_3_167 q_p_15 q_1_1 q_3_168) rfl rfl rfl (by decide +kernel) ⟨Nat.le_of_ble_eq_true rfl, Nat.le_of_ble_eq_true rfl⟩) (px_preV hK hPc_1 hDc_1 (ci := 10) (q0 := 0) rfl rfl) rfl rfl hl.1 rfl (lv_room (Nat.le_of_ble_eq_true rfl)) dX10_ask_4 ⟨Nat.le_of_ble_eq_true rfl, Nat.le_of_ble_eq_true rfl⟩)) (fun r_1 hw_1 => ?_)
  obtain rfl : r_1 = 0 := hw_1
  refine lv_if_eq (tgt := 21) hx hb dX10_ask_7 (by decide) (fun _ => ?_) (fun c_2 => absurd c_2 (by decide))
  refine lv_iconst (v := (-1)) hx hb dX10_ask_21 (by decide) ?_
  exact W.iret (v := (-1)) hx hb hr (fun t ht hW => ⟨_, rfl, rfl, ht⟩) (fun q h => by cases h) dX10_ask_22

set_option maxHeartbeats 4000000 in
set_option maxRecDepth 100000 in
theorem c_X10_known (l : Launch) (D : va_G) (y : Nat → ClassId) (sz : Nat) (x : Nat) (fx : List Value) (g : Nat) (fg : List Value) (p0 : Int32) (p1 : Int32) (hx_3 : fx[3]? = some (.ref g)) (hg_1 : fg[1]? = some (.int 0)) : Met l yX10_known (px_w yX10_known cX10_known 3 (some .int)) ({ frames := 1, cells := 0, slots := 0, locals := 21 }) (va_Pc [.ref x, .int p0, .int p1] (px_P D y sz [(x, .inr (10, fx)), (g, .inr (2, fg))])) (vp_Si (fun r : Int32 => r = (-1))) 0 0 (fun _ => False) := by
  refine Met.ofW (cc := cX10_known) (maxL := 3) (ret := (some .int)) (by decide) rfl ?_
  intro p e s m args below meth c s₁ B hml hv
  obtain ⟨rfl, hsz, hP, hK, hD0⟩ := hv
  have hx := B.exec
  have hb := B.bytes
  have hr := B.returns
  have hts := atoms_spec (ws := px_w yX10_known cX10_known 3 (some .int)) B.pre
  have hg : ∀ w ∈ gw, w.before [.ref x, .int p0, .int p1].toArray s = true := fun w h => hts w (List.mem_cons_of_mem _ h)
  have hown : s.vm.findClass RX10 = some m.cls := findClass_of_methodNamed B.named
  have hlocks := B.notSynchronized
  subst hsz
  have hD := hD0
  have hP : va_P D vwCl [(x, .inr (10, fx)), (g, .inr (2, fg))] s.heap := hP
  have hl := lv_entry ([.ref x, .int p0, .int p1]) (n := 3) (Nat.le_of_ble_eq_true rfl)
  rw [lg_entry_eq]
  generalize (lg_sl ([.ref x, .int p0, .int p1]) ++ List.replicate (3 - (lg_sl ([.ref x, .int p0, .int p1])).length) Slot.unset).toArray = ls at hl ⊢
  have hl : lv_has ls 3 [(0, .ref x), (1, .int p0), (2, .int p1)] := hl
  refine lv_aload_n hx hb dX10_known_0 rfl (lv_at hl 0 rfl) ?_
  refine va_get (D := D) (ci := 10) (v := .ref g) (C := RX10) (T := TX10) (N := 20) hx hb hg inGX10 hown hK hP 0 rfl rfl 3 (by decide) (hg _ q_2_106) (fun _ h9 => h9) hx_3 dX10_known_1 ?_
  refine lv_iload_n hx hb dX10_known_4 rfl (lv_at hl 1 rfl) ?_
  have hPc_1 := hP.sub (ws' := [(g, .inr (2, fg))]) [1] rfl
  have hDc_1 := hD.sub (ws' := [(g, .inr (2, fg))]) [1] (by decide) rfl
  refine vp_callSi (va_Run.run (va_runV (As := [.int p0]) (rest := []) ⟨hx, hb, hml, hown, hg⟩ (c_X2_hasPerson l D y s.heap.size g fg p0 hg_1) (cwV 1 hg (px_gV q_3_115 q_3_116 q_3_117 q_1_2 q_3_118) rfl rfl rfl (by decide +kernel) ⟨Nat.le_of_ble_eq_true rfl, Nat.le_of_ble_eq_true rfl⟩) (px_preV hK hPc_1 hDc_1 (ci := 2) (q0 := 0) rfl rfl) rfl rfl hl.1 rfl (lv_room (Nat.le_of_ble_eq_true rfl)) dX10_known_5 ⟨Nat.le_of_ble_eq_true rfl, Nat.le_of_ble_eq_true rfl⟩)) (fun r_1 hw_1 => ?_)
  obtain rfl : r_1 = 0 := hw_1
  refine lv_if_eq (tgt := 37) hx hb dX10_known_8 (by decide) (fun _ => ?_) (fun c_2 => absurd c_2 (by decide))
  refine lv_iconst (v := (-1)) hx hb dX10_known_37 (by decide) ?_
  exact W.iret (v := (-1)) hx hb hr (fun t ht hW => ⟨_, rfl, rfl, ht⟩) (fun q h => by cases h) dX10_known_38

set_option maxHeartbeats 4000000 in
set_option maxRecDepth 100000 in
theorem c_X10_can (l : Launch) (D : va_G) (y : Nat → ClassId) (sz : Nat) (x : Nat) (fx : List Value) (g : Nat) (fg : List Value) (p0 : Int32) (p1 : Int32) (hx_3 : fx[3]? = some (.ref g)) (hg_1 : fg[1]? = some (.int 0)) : Met l yX10_can (px_w yX10_can cX10_can 3 (some .int)) ({ frames := 1, cells := 0, slots := 0, locals := 21 }) (va_Pc [.ref x, .int p0, .int p1] (px_P D y sz [(x, .inr (10, fx)), (g, .inr (2, fg))])) (vp_Si (fun r : Int32 => r = (-1))) 0 0 (fun _ => False) := by
  refine Met.ofW (cc := cX10_can) (maxL := 3) (ret := (some .int)) (by decide) rfl ?_
  intro p e s m args below meth c s₁ B hml hv
  obtain ⟨rfl, hsz, hP, hK, hD0⟩ := hv
  have hx := B.exec
  have hb := B.bytes
  have hr := B.returns
  have hts := atoms_spec (ws := px_w yX10_can cX10_can 3 (some .int)) B.pre
  have hg : ∀ w ∈ gw, w.before [.ref x, .int p0, .int p1].toArray s = true := fun w h => hts w (List.mem_cons_of_mem _ h)
  have hown : s.vm.findClass RX10 = some m.cls := findClass_of_methodNamed B.named
  have hlocks := B.notSynchronized
  subst hsz
  have hD := hD0
  have hP : va_P D vwCl [(x, .inr (10, fx)), (g, .inr (2, fg))] s.heap := hP
  have hl := lv_entry ([.ref x, .int p0, .int p1]) (n := 3) (Nat.le_of_ble_eq_true rfl)
  rw [lg_entry_eq]
  generalize (lg_sl ([.ref x, .int p0, .int p1]) ++ List.replicate (3 - (lg_sl ([.ref x, .int p0, .int p1])).length) Slot.unset).toArray = ls at hl ⊢
  have hl : lv_has ls 3 [(0, .ref x), (1, .int p0), (2, .int p1)] := hl
  refine lv_aload_n hx hb dX10_can_0 rfl (lv_at hl 0 rfl) ?_
  refine va_get (D := D) (ci := 10) (v := .ref g) (C := RX10) (T := TX10) (N := 20) hx hb hg inGX10 hown hK hP 0 rfl rfl 3 (by decide) (hg _ q_2_106) (fun _ h9 => h9) hx_3 dX10_can_1 ?_
  refine lv_iload_n hx hb dX10_can_4 rfl (lv_at hl 1 rfl) ?_
  have hPc_1 := hP.sub (ws' := [(g, .inr (2, fg))]) [1] rfl
  have hDc_1 := hD.sub (ws' := [(g, .inr (2, fg))]) [1] (by decide) rfl
  refine vp_callSi (va_Run.run (va_runV (As := [.int p0]) (rest := []) ⟨hx, hb, hml, hown, hg⟩ (c_X2_hasPerson l D y s.heap.size g fg p0 hg_1) (cwV 1 hg (px_gV q_3_115 q_3_116 q_3_117 q_1_2 q_3_118) rfl rfl rfl (by decide +kernel) ⟨Nat.le_of_ble_eq_true rfl, Nat.le_of_ble_eq_true rfl⟩) (px_preV hK hPc_1 hDc_1 (ci := 2) (q0 := 0) rfl rfl) rfl rfl hl.1 rfl (lv_room (Nat.le_of_ble_eq_true rfl)) dX10_can_5 ⟨Nat.le_of_ble_eq_true rfl, Nat.le_of_ble_eq_true rfl⟩)) (fun r_1 hw_1 => ?_)
  obtain rfl : r_1 = 0 := hw_1
  refine lv_if_eq (tgt := 37) hx hb dX10_can_8 (by decide) (fun _ => ?_) (fun c_2 => absurd c_2 (by decide))
  refine lv_iconst (v := (-1)) hx hb dX10_can_37 (by decide) ?_
  exact W.iret (v := (-1)) hx hb hr (fun t ht hW => ⟨_, rfl, rfl, ht⟩) (fun q h => by cases h) dX10_can_38

set_option maxHeartbeats 4000000 in
set_option maxRecDepth 100000 in
theorem c_X10_whom (l : Launch) (D : va_G) (y : Nat → ClassId) (sz : Nat) (x : Nat) (fx : List Value) (g : Nat) (fg : List Value) (p0 : Int32) (hx_3 : fx[3]? = some (.ref g)) (hg_1 : fg[1]? = some (.int 0)) : Met l yX10_whom (px_w yX10_whom cX10_whom 3 (some .int)) ({ frames := 1, cells := 0, slots := 0, locals := 21 }) (va_Pc [.ref x, .int p0] (px_P D y sz [(x, .inr (10, fx)), (g, .inr (2, fg))])) (vp_Si (fun r : Int32 => r = (-1))) 0 0 (fun _ => False) := by
  refine Met.ofW (cc := cX10_whom) (maxL := 3) (ret := (some .int)) (by decide) rfl ?_
  intro p e s m args below meth c s₁ B hml hv
  obtain ⟨rfl, hsz, hP, hK, hD0⟩ := hv
  have hx := B.exec
  have hb := B.bytes
  have hr := B.returns
  have hts := atoms_spec (ws := px_w yX10_whom cX10_whom 3 (some .int)) B.pre
  have hg : ∀ w ∈ gw, w.before [.ref x, .int p0].toArray s = true := fun w h => hts w (List.mem_cons_of_mem _ h)
  have hown : s.vm.findClass RX10 = some m.cls := findClass_of_methodNamed B.named
  have hlocks := B.notSynchronized
  subst hsz
  have hD := hD0
  have hP : va_P D vwCl [(x, .inr (10, fx)), (g, .inr (2, fg))] s.heap := hP
  have hl := lv_entry ([.ref x, .int p0]) (n := 3) (Nat.le_of_ble_eq_true rfl)
  rw [lg_entry_eq]
  generalize (lg_sl ([.ref x, .int p0]) ++ List.replicate (3 - (lg_sl ([.ref x, .int p0])).length) Slot.unset).toArray = ls at hl ⊢
  have hl : lv_has ls 3 [(0, .ref x), (1, .int p0)] := hl
  refine lv_aload_n hx hb dX10_whom_0 rfl (lv_at hl 0 rfl) ?_
  refine va_get (D := D) (ci := 10) (v := .ref g) (C := RX10) (T := TX10) (N := 20) hx hb hg inGX10 hown hK hP 0 rfl rfl 3 (by decide) (hg _ q_2_106) (fun _ h9 => h9) hx_3 dX10_whom_1 ?_
  refine lv_iload_n hx hb dX10_whom_4 rfl (lv_at hl 1 rfl) ?_
  have hPc_1 := hP.sub (ws' := [(g, .inr (2, fg))]) [1] rfl
  have hDc_1 := hD.sub (ws' := [(g, .inr (2, fg))]) [1] (by decide) rfl
  refine vp_callSi (va_Run.run (va_runV (As := [.int p0]) (rest := []) ⟨hx, hb, hml, hown, hg⟩ (c_X2_hasPerson l D y s.heap.size g fg p0 hg_1) (cwV 1 hg (px_gV q_3_115 q_3_116 q_3_117 q_1_2 q_3_118) rfl rfl rfl (by decide +kernel) ⟨Nat.le_of_ble_eq_true rfl, Nat.le_of_ble_eq_true rfl⟩) (px_preV hK hPc_1 hDc_1 (ci := 2) (q0 := 0) rfl rfl) rfl rfl hl.1 rfl (lv_room (Nat.le_of_ble_eq_true rfl)) dX10_whom_5 ⟨Nat.le_of_ble_eq_true rfl, Nat.le_of_ble_eq_true rfl⟩)) (fun r_1 hw_1 => ?_)
  obtain rfl : r_1 = 0 := hw_1
  refine lv_if_eq (tgt := 34) hx hb dX10_whom_8 (by decide) (fun _ => ?_) (fun c_2 => absurd c_2 (by decide))
  refine lv_iconst (v := (-1)) hx hb dX10_whom_34 (by decide) ?_
  exact W.iret (v := (-1)) hx hb hr (fun t ht hW => ⟨_, rfl, rfl, ht⟩) (fun q h => by cases h) dX10_whom_35

set_option maxHeartbeats 4000000 in
set_option maxRecDepth 100000 in
theorem c_X10_sweep (l : Launch) (D : va_G) (y : Nat → ClassId) (sz : Nat) (x : Nat) (fx : List Value) (g : Nat) (fg : List Value) (p0 : Int32) (hx_3 : fx[3]? = some (.ref g)) (hg_1 : fg[1]? = some (.int 0)) : Met l yX10_sweep (px_w yX10_sweep cX10_sweep 3 (some .int)) ({ frames := 1, cells := 0, slots := 0, locals := 21 }) (va_Pc [.ref x, .int p0] (px_P D y sz [(x, .inr (10, fx)), (g, .inr (2, fg))])) (vp_Si (fun r : Int32 => r = (-1))) 0 0 (fun _ => False) := by
  refine Met.ofW (cc := cX10_sweep) (maxL := 3) (ret := (some .int)) (by decide) rfl ?_
  intro p e s m args below meth c s₁ B hml hv
  obtain ⟨rfl, hsz, hP, hK, hD0⟩ := hv
  have hx := B.exec
  have hb := B.bytes
  have hr := B.returns
  have hts := atoms_spec (ws := px_w yX10_sweep cX10_sweep 3 (some .int)) B.pre
  have hg : ∀ w ∈ gw, w.before [.ref x, .int p0].toArray s = true := fun w h => hts w (List.mem_cons_of_mem _ h)
  have hown : s.vm.findClass RX10 = some m.cls := findClass_of_methodNamed B.named
  have hlocks := B.notSynchronized
  subst hsz
  have hD := hD0
  have hP : va_P D vwCl [(x, .inr (10, fx)), (g, .inr (2, fg))] s.heap := hP
  have hl := lv_entry ([.ref x, .int p0]) (n := 3) (Nat.le_of_ble_eq_true rfl)
  rw [lg_entry_eq]
  generalize (lg_sl ([.ref x, .int p0]) ++ List.replicate (3 - (lg_sl ([.ref x, .int p0])).length) Slot.unset).toArray = ls at hl ⊢
  have hl : lv_has ls 3 [(0, .ref x), (1, .int p0)] := hl
  refine lv_aload_n hx hb dX10_sweep_0 rfl (lv_at hl 0 rfl) ?_
  refine va_get (D := D) (ci := 10) (v := .ref g) (C := RX10) (T := TX10) (N := 20) hx hb hg inGX10 hown hK hP 0 rfl rfl 3 (by decide) (hg _ q_2_106) (fun _ h9 => h9) hx_3 dX10_sweep_1 ?_
  refine lv_iload_n hx hb dX10_sweep_4 rfl (lv_at hl 1 rfl) ?_
  have hPc_1 := hP.sub (ws' := [(g, .inr (2, fg))]) [1] rfl
  have hDc_1 := hD.sub (ws' := [(g, .inr (2, fg))]) [1] (by decide) rfl
  refine vp_callSi (va_Run.run (va_runV (As := [.int p0]) (rest := []) ⟨hx, hb, hml, hown, hg⟩ (c_X2_hasPerson l D y s.heap.size g fg p0 hg_1) (cwV 1 hg (px_gV q_3_115 q_3_116 q_3_117 q_1_2 q_3_118) rfl rfl rfl (by decide +kernel) ⟨Nat.le_of_ble_eq_true rfl, Nat.le_of_ble_eq_true rfl⟩) (px_preV hK hPc_1 hDc_1 (ci := 2) (q0 := 0) rfl rfl) rfl rfl hl.1 rfl (lv_room (Nat.le_of_ble_eq_true rfl)) dX10_sweep_5 ⟨Nat.le_of_ble_eq_true rfl, Nat.le_of_ble_eq_true rfl⟩)) (fun r_1 hw_1 => ?_)
  obtain rfl : r_1 = 0 := hw_1
  refine lv_if_ne (tgt := 13) hx hb dX10_sweep_8 (by decide) (fun c_2 => absurd c_2 (by decide)) (fun _ => ?_)
  refine lv_iconst (v := (-1)) hx hb dX10_sweep_11 (by decide) ?_
  exact W.iret (v := (-1)) hx hb hr (fun t ht hW => ⟨_, rfl, rfl, ht⟩) (fun q h => by cases h) dX10_sweep_12

set_option maxHeartbeats 4000000 in
set_option maxRecDepth 100000 in
theorem c_X10_swept (l : Launch) (D : va_G) (y : Nat → ClassId) (sz : Nat) (x : Nat) (fx : List Value) (p0 : Int32) (hx_17 : fx[17]? = some (.int 0)) : Met l yX10_swept (px_w yX10_swept cX10_swept 2 (some .int)) ({ frames := 0, cells := 0, slots := 0, locals := 0 }) (va_Pc [.ref x, .int p0] (px_P D y sz [(x, .inr (10, fx))])) (vp_Si (fun r : Int32 => r = (-1))) 0 0 (fun _ => False) := by
  refine Met.ofW (cc := cX10_swept) (maxL := 2) (ret := (some .int)) (by decide) rfl ?_
  intro p e s m args below meth c s₁ B hml hv
  obtain ⟨rfl, hsz, hP, hK, hD0⟩ := hv
  have hx := B.exec
  have hb := B.bytes
  have hr := B.returns
  have hts := atoms_spec (ws := px_w yX10_swept cX10_swept 2 (some .int)) B.pre
  have hg : ∀ w ∈ gw, w.before [.ref x, .int p0].toArray s = true := fun w h => hts w (List.mem_cons_of_mem _ h)
  have hown : s.vm.findClass RX10 = some m.cls := findClass_of_methodNamed B.named
  have hlocks := B.notSynchronized
  subst hsz
  have hD := hD0
  have hP : va_P D vwCl [(x, .inr (10, fx))] s.heap := hP
  have hl := lv_entry ([.ref x, .int p0]) (n := 2) (Nat.le_of_ble_eq_true rfl)
  rw [lg_entry_eq]
  generalize (lg_sl ([.ref x, .int p0]) ++ List.replicate (2 - (lg_sl ([.ref x, .int p0])).length) Slot.unset).toArray = ls at hl ⊢
  have hl : lv_has ls 2 [(0, .ref x), (1, .int p0)] := hl
  refine lv_iload_n hx hb dX10_swept_0 rfl (lv_at hl 1 rfl) ?_
  refine lv_if_lt (tgt := 21) hx hb dX10_swept_1 (by decide) (fun c_1 => ?_) (fun c_1 => ?_)
  · refine lv_iconst (v := (-1)) hx hb dX10_swept_21 (by decide) ?_
    exact W.iret (v := (-1)) hx hb hr (fun t ht hW => ⟨_, rfl, rfl, ht⟩) (fun q h => by cases h) dX10_swept_22
  · refine lv_iload_n hx hb dX10_swept_4 rfl (lv_at hl 1 rfl) ?_
    refine lv_aload_n hx hb dX10_swept_5 rfl (lv_at hl 0 rfl) ?_
    refine va_get (D := D) (ci := 10) (v := .int 0) (C := RX10) (T := TX10) (N := 20) hx hb hg inGX10 hown hK hP 0 rfl rfl 17 (by decide) (hg _ q_2_120) (fun _ h9 => h9) hx_17 dX10_swept_6 ?_
    refine lv_icmp_ge (tgt := 21) hx hb dX10_swept_9 (by decide) (fun c_2 => ?_) (fun c_2 => (by exfalso; simp only [Int32.lt_iff_toInt_lt, Int32.le_iff_toInt_le, ← Int32.toInt_inj] at c_1 c_2; have e0 : (0 : Int32).toInt = 0 := rfl; omega))
    refine lv_iconst (v := (-1)) hx hb dX10_swept_21 (by decide) ?_
    exact W.iret (v := (-1)) hx hb hr (fun t ht hW => ⟨_, rfl, rfl, ht⟩) (fun q h => by cases h) dX10_swept_22

set_option maxHeartbeats 4000000 in
set_option maxRecDepth 100000 in
theorem c_X10_gains (l : Launch) (D : va_G) (y : Nat → ClassId) (sz : Nat) (x : Nat) (fx : List Value) (g : Nat) (fg : List Value) (p0 : Int32) (hx_3 : fx[3]? = some (.ref g)) (hg_1 : fg[1]? = some (.int 0)) : Met l yX10_gains (px_w yX10_gains cX10_gains 4 (some .int)) ({ frames := 1, cells := 0, slots := 0, locals := 21 }) (va_Pc [.ref x, .int p0] (px_P D y sz [(x, .inr (10, fx)), (g, .inr (2, fg))])) (vp_Si (fun r : Int32 => r = (-1))) 0 0 (fun _ => False) := by
  refine Met.ofW (cc := cX10_gains) (maxL := 4) (ret := (some .int)) (by decide) rfl ?_
  intro p e s m args below meth c s₁ B hml hv
  obtain ⟨rfl, hsz, hP, hK, hD0⟩ := hv
  have hx := B.exec
  have hb := B.bytes
  have hr := B.returns
  have hts := atoms_spec (ws := px_w yX10_gains cX10_gains 4 (some .int)) B.pre
  have hg : ∀ w ∈ gw, w.before [.ref x, .int p0].toArray s = true := fun w h => hts w (List.mem_cons_of_mem _ h)
  have hown : s.vm.findClass RX10 = some m.cls := findClass_of_methodNamed B.named
  have hlocks := B.notSynchronized
  subst hsz
  have hD := hD0
  have hP : va_P D vwCl [(x, .inr (10, fx)), (g, .inr (2, fg))] s.heap := hP
  have hl := lv_entry ([.ref x, .int p0]) (n := 4) (Nat.le_of_ble_eq_true rfl)
  rw [lg_entry_eq]
  generalize (lg_sl ([.ref x, .int p0]) ++ List.replicate (4 - (lg_sl ([.ref x, .int p0])).length) Slot.unset).toArray = ls at hl ⊢
  have hl : lv_has ls 4 [(0, .ref x), (1, .int p0)] := hl
  refine lv_aload_n hx hb dX10_gains_0 rfl (lv_at hl 0 rfl) ?_
  refine va_get (D := D) (ci := 10) (v := .ref g) (C := RX10) (T := TX10) (N := 20) hx hb hg inGX10 hown hK hP 0 rfl rfl 3 (by decide) (hg _ q_2_106) (fun _ h9 => h9) hx_3 dX10_gains_1 ?_
  refine lv_iload_n hx hb dX10_gains_4 rfl (lv_at hl 1 rfl) ?_
  have hPc_1 := hP.sub (ws' := [(g, .inr (2, fg))]) [1] rfl
  have hDc_1 := hD.sub (ws' := [(g, .inr (2, fg))]) [1] (by decide) rfl
  refine vp_callSi (va_Run.run (va_runV (As := [.int p0]) (rest := []) ⟨hx, hb, hml, hown, hg⟩ (c_X2_hasPerson l D y s.heap.size g fg p0 hg_1) (cwV 1 hg (px_gV q_3_115 q_3_116 q_3_117 q_1_2 q_3_118) rfl rfl rfl (by decide +kernel) ⟨Nat.le_of_ble_eq_true rfl, Nat.le_of_ble_eq_true rfl⟩) (px_preV hK hPc_1 hDc_1 (ci := 2) (q0 := 0) rfl rfl) rfl rfl hl.1 rfl (lv_room (Nat.le_of_ble_eq_true rfl)) dX10_gains_5 ⟨Nat.le_of_ble_eq_true rfl, Nat.le_of_ble_eq_true rfl⟩)) (fun r_1 hw_1 => ?_)
  obtain rfl : r_1 = 0 := hw_1
  refine lv_if_ne (tgt := 13) hx hb dX10_gains_8 (by decide) (fun c_2 => absurd c_2 (by decide)) (fun _ => ?_)
  refine lv_iconst (v := (-1)) hx hb dX10_gains_11 (by decide) ?_
  exact W.iret (v := (-1)) hx hb hr (fun t ht hW => ⟨_, rfl, rfl, ht⟩) (fun q h => by cases h) dX10_gains_12

set_option maxHeartbeats 4000000 in
set_option maxRecDepth 100000 in
theorem c_X10_isOpen (l : Launch) (D : va_G) (y : Nat → ClassId) (sz : Nat) (x : Nat) (fx : List Value) (g : Nat) (fg : List Value) (hx_3 : fx[3]? = some (.ref g)) (hg_1 : fg[1]? = some (.int 0)) : Met l yX10_isOpen (px_w yX10_isOpen cX10_isOpen 1 (some .boolean)) ({ frames := 0, cells := 0, slots := 0, locals := 0 }) (va_Pc [.ref x] (px_P D y sz [(x, .inr (10, fx)), (g, .inr (2, fg))])) (vp_Si (fun r : Int32 => r = 0)) 0 0 (fun _ => False) := by
  refine Met.ofW (cc := cX10_isOpen) (maxL := 1) (ret := (some .boolean)) (by decide) rfl ?_
  intro p e s m args below meth c s₁ B hml hv
  obtain ⟨rfl, hsz, hP, hK, hD0⟩ := hv
  have hx := B.exec
  have hb := B.bytes
  have hr := B.returns
  have hts := atoms_spec (ws := px_w yX10_isOpen cX10_isOpen 1 (some .boolean)) B.pre
  have hg : ∀ w ∈ gw, w.before [.ref x].toArray s = true := fun w h => hts w (List.mem_cons_of_mem _ h)
  have hown : s.vm.findClass RX10 = some m.cls := findClass_of_methodNamed B.named
  have hlocks := B.notSynchronized
  subst hsz
  have hD := hD0
  have hP : va_P D vwCl [(x, .inr (10, fx)), (g, .inr (2, fg))] s.heap := hP
  have hl := lv_entry ([.ref x]) (n := 1) (Nat.le_of_ble_eq_true rfl)
  rw [lg_entry_eq]
  generalize (lg_sl ([.ref x]) ++ List.replicate (1 - (lg_sl ([.ref x])).length) Slot.unset).toArray = ls at hl ⊢
  have hl : lv_has ls 1 [(0, .ref x)] := hl
  refine lv_aload_n hx hb dX10_isOpen_0 rfl (lv_at hl 0 rfl) ?_
  refine va_get (D := D) (ci := 10) (v := .ref g) (C := RX10) (T := TX10) (N := 20) hx hb hg inGX10 hown hK hP 0 rfl rfl 3 (by decide) (hg _ q_2_106) (fun _ h9 => h9) hx_3 dX10_isOpen_1 ?_
  refine va_get (D := D) (ci := 2) (v := .int 0) (C := RX2) (T := TX2) (N := 18) hx hb hg inGX2 hown hK hP 1 rfl rfl 1 (by decide) (hg _ q_1_73) (fun _ h9 => h9) hg_1 dX10_isOpen_4 ?_
  refine lv_iconst (v := 2) hx hb dX10_isOpen_7 (by decide) ?_
  refine lv_icmp_ne (tgt := 54) hx hb dX10_isOpen_8 (by decide) (fun _ => ?_) (fun c_1 => absurd c_1 (by decide))
  refine lv_iconst (v := 0) hx hb dX10_isOpen_54 (by decide) ?_
  exact W.zret (v := 0) hx hb hr (by decide) (fun t ht hW => ⟨_, rfl, rfl, ht⟩) (fun q h => by cases h) dX10_isOpen_55

set_option maxHeartbeats 4000000 in
set_option maxRecDepth 100000 in
theorem c_X10_open (l : Launch) (D : va_G) (y : Nat → ClassId) (sz : Nat) (x : Nat) (fx : List Value) (g : Nat) (fg : List Value) (hx_3 : fx[3]? = some (.ref g)) (hg_1 : fg[1]? = some (.int 0)) : Met l yX10_open (px_w yX10_open cX10_open 1 (some .int)) ({ frames := 1, cells := 0, slots := 0, locals := 20 }) (va_Pc [.ref x] (px_P D y sz [(x, .inr (10, fx)), (g, .inr (2, fg))])) (vp_Si (fun r : Int32 => r = (-101))) 0 0 (fun _ => False) := by
  refine Met.ofW (cc := cX10_open) (maxL := 1) (ret := (some .int)) (by decide) rfl ?_
  intro p e s m args below meth c s₁ B hml hv
  obtain ⟨rfl, hsz, hP, hK, hD0⟩ := hv
  have hx := B.exec
  have hb := B.bytes
  have hr := B.returns
  have hts := atoms_spec (ws := px_w yX10_open cX10_open 1 (some .int)) B.pre
  have hg : ∀ w ∈ gw, w.before [.ref x].toArray s = true := fun w h => hts w (List.mem_cons_of_mem _ h)
  have hown : s.vm.findClass RX10 = some m.cls := findClass_of_methodNamed B.named
  have hlocks := B.notSynchronized
  subst hsz
  have hD := hD0
  have hP : va_P D vwCl [(x, .inr (10, fx)), (g, .inr (2, fg))] s.heap := hP
  have hl := lv_entry ([.ref x]) (n := 1) (Nat.le_of_ble_eq_true rfl)
  rw [lg_entry_eq]
  generalize (lg_sl ([.ref x]) ++ List.replicate (1 - (lg_sl ([.ref x])).length) Slot.unset).toArray = ls at hl ⊢
  have hl : lv_has ls 1 [(0, .ref x)] := hl
  refine lv_aload_n hx hb dX10_open_0 rfl (lv_at hl 0 rfl) ?_
  have hPc_1 := hP.sub (ws' := [(x, .inr (10, fx)), (g, .inr (2, fg))]) [0, 1] rfl
  have hDc_1 := hD.sub (ws' := [(x, .inr (10, fx)), (g, .inr (2, fg))]) [0, 1] (by decide) rfl
  refine vp_callSi (va_Run.run (va_runV (As := []) (rest := []) ⟨hx, hb, hml, hown, hg⟩ (c_X10_isOpen l D y s.heap.size x fx g fg hx_3 hg_1) (cwV 0 hg (px_gV q_4_133 q_4_135 q_p_27 q_1_1 q_4_136) rfl rfl rfl (by decide +kernel) ⟨Nat.le_of_ble_eq_true rfl, Nat.le_of_ble_eq_true rfl⟩) (px_preV hK hPc_1 hDc_1 (ci := 10) (q0 := 0) rfl rfl) rfl rfl hl.1 rfl (lv_room (Nat.le_of_ble_eq_true rfl)) dX10_open_1 ⟨Nat.le_of_ble_eq_true rfl, Nat.le_of_ble_eq_true rfl⟩)) (fun r_1 hw_1 => ?_)
  obtain rfl : r_1 = 0 := hw_1
  refine lv_if_eq (tgt := 21) hx hb dX10_open_4 (by decide) (fun _ => ?_) (fun c_2 => absurd c_2 (by decide))
  refine lv_bipush (v := (-101)) hx hb dX10_open_21 (by decide) ?_
  exact W.iret (v := (-101)) hx hb hr (fun t ht hW => ⟨_, rfl, rfl, ht⟩) (fun q h => by cases h) dX10_open_23

set_option maxHeartbeats 4000000 in
set_option maxRecDepth 100000 in
theorem c_X10_first (l : Launch) (D : va_G) (y : Nat → ClassId) (sz : Nat) (x : Nat) (fx : List Value) (g : Nat) (fg : List Value) (hx_3 : fx[3]? = some (.ref g)) (hg_1 : fg[1]? = some (.int 0)) : Met l yX10_first (px_w yX10_first cX10_first 1 (some .int)) ({ frames := 1, cells := 0, slots := 0, locals := 20 }) (va_Pc [.ref x] (px_P D y sz [(x, .inr (10, fx)), (g, .inr (2, fg))])) (vp_Si (fun r : Int32 => r = (-1))) 0 0 (fun _ => False) := by
  refine Met.ofW (cc := cX10_first) (maxL := 1) (ret := (some .int)) (by decide) rfl ?_
  intro p e s m args below meth c s₁ B hml hv
  obtain ⟨rfl, hsz, hP, hK, hD0⟩ := hv
  have hx := B.exec
  have hb := B.bytes
  have hr := B.returns
  have hts := atoms_spec (ws := px_w yX10_first cX10_first 1 (some .int)) B.pre
  have hg : ∀ w ∈ gw, w.before [.ref x].toArray s = true := fun w h => hts w (List.mem_cons_of_mem _ h)
  have hown : s.vm.findClass RX10 = some m.cls := findClass_of_methodNamed B.named
  have hlocks := B.notSynchronized
  subst hsz
  have hD := hD0
  have hP : va_P D vwCl [(x, .inr (10, fx)), (g, .inr (2, fg))] s.heap := hP
  have hl := lv_entry ([.ref x]) (n := 1) (Nat.le_of_ble_eq_true rfl)
  rw [lg_entry_eq]
  generalize (lg_sl ([.ref x]) ++ List.replicate (1 - (lg_sl ([.ref x])).length) Slot.unset).toArray = ls at hl ⊢
  have hl : lv_has ls 1 [(0, .ref x)] := hl
  refine lv_aload_n hx hb dX10_first_0 rfl (lv_at hl 0 rfl) ?_
  have hPc_1 := hP.sub (ws' := [(x, .inr (10, fx)), (g, .inr (2, fg))]) [0, 1] rfl
  have hDc_1 := hD.sub (ws' := [(x, .inr (10, fx)), (g, .inr (2, fg))]) [0, 1] (by decide) rfl
  refine vp_callSi (va_Run.run (va_runV (As := []) (rest := []) ⟨hx, hb, hml, hown, hg⟩ (c_X10_isOpen l D y s.heap.size x fx g fg hx_3 hg_1) (cwV 0 hg (px_gV q_4_133 q_4_135 q_p_27 q_1_1 q_4_136) rfl rfl rfl (by decide +kernel) ⟨Nat.le_of_ble_eq_true rfl, Nat.le_of_ble_eq_true rfl⟩) (px_preV hK hPc_1 hDc_1 (ci := 10) (q0 := 0) rfl rfl) rfl rfl hl.1 rfl (lv_room (Nat.le_of_ble_eq_true rfl)) dX10_first_1 ⟨Nat.le_of_ble_eq_true rfl, Nat.le_of_ble_eq_true rfl⟩)) (fun r_1 hw_1 => ?_)
  obtain rfl : r_1 = 0 := hw_1
  refine lv_if_eq (tgt := 21) hx hb dX10_first_4 (by decide) (fun _ => ?_) (fun c_2 => absurd c_2 (by decide))
  refine lv_iconst (v := (-1)) hx hb dX10_first_21 (by decide) ?_
  exact W.iret (v := (-1)) hx hb hr (fun t ht hW => ⟨_, rfl, rfl, ht⟩) (fun q h => by cases h) dX10_first_22

set_option maxHeartbeats 4000000 in
set_option maxRecDepth 100000 in
theorem c_X10_isRule (l : Launch) (D : va_G) (y : Nat → ClassId) (sz : Nat) (x : Nat) (fx : List Value) (p0 : Int32)  : Met l yX10_isRule (px_w yX10_isRule cX10_isRule 2 (some .boolean)) ({ frames := 0, cells := 0, slots := 0, locals := 0 }) (va_Pc [.ref x, .int p0] (px_P D y sz [(x, .inr (10, fx))])) (vp_Si (fun r : Int32 => True)) 0 0 (fun _ => False) := by
  refine Met.ofW (cc := cX10_isRule) (maxL := 2) (ret := (some .boolean)) (by decide) rfl ?_
  intro p e s m args below meth c s₁ B hml hv
  obtain ⟨rfl, hsz, hP, hK, hD0⟩ := hv
  have hx := B.exec
  have hb := B.bytes
  have hr := B.returns
  have hts := atoms_spec (ws := px_w yX10_isRule cX10_isRule 2 (some .boolean)) B.pre
  have hg : ∀ w ∈ gw, w.before [.ref x, .int p0].toArray s = true := fun w h => hts w (List.mem_cons_of_mem _ h)
  have hown : s.vm.findClass RX10 = some m.cls := findClass_of_methodNamed B.named
  have hlocks := B.notSynchronized
  subst hsz
  have hD := hD0
  have hP : va_P D vwCl [(x, .inr (10, fx))] s.heap := hP
  have hl := lv_entry ([.ref x, .int p0]) (n := 2) (Nat.le_of_ble_eq_true rfl)
  rw [lg_entry_eq]
  generalize (lg_sl ([.ref x, .int p0]) ++ List.replicate (2 - (lg_sl ([.ref x, .int p0])).length) Slot.unset).toArray = ls at hl ⊢
  have hl : lv_has ls 2 [(0, .ref x), (1, .int p0)] := hl
  refine lv_iload_n hx hb dX10_isRule_0 rfl (lv_at hl 1 rfl) ?_
  refine lv_if_lt (tgt := 13) hx hb dX10_isRule_1 (by decide) (fun c_1 => ?_) (fun c_1 => ?_)
  · refine lv_iconst (v := 0) hx hb dX10_isRule_13 (by decide) ?_
    exact W.zret (v := 0) hx hb hr (by decide) (fun t ht hW => ⟨_, rfl, trivial, ht⟩) (fun q h => by cases h) dX10_isRule_14
  · refine lv_iload_n hx hb dX10_isRule_4 rfl (lv_at hl 1 rfl) ?_
    refine lv_iconst (v := 4) hx hb dX10_isRule_5 (by decide) ?_
    refine lv_icmp_ge (tgt := 13) hx hb dX10_isRule_6 (by decide) (fun c_2 => ?_) (fun c_2 => ?_)
    · refine lv_iconst (v := 0) hx hb dX10_isRule_13 (by decide) ?_
      exact W.zret (v := 0) hx hb hr (by decide) (fun t ht hW => ⟨_, rfl, trivial, ht⟩) (fun q h => by cases h) dX10_isRule_14
    · refine lv_iconst (v := 1) hx hb dX10_isRule_9 (by decide) ?_
      refine lv_goto (tgt := 14) hx hb dX10_isRule_10 (by decide) ?_
      exact W.zret (v := 1) hx hb hr (by decide) (fun t ht hW => ⟨_, rfl, trivial, ht⟩) (fun q h => by cases h) dX10_isRule_14

set_option maxHeartbeats 4000000 in
set_option maxRecDepth 100000 in
theorem c_X10_bent (l : Launch) (D : va_G) (y : Nat → ClassId) (sz : Nat) (x : Nat) (fx : List Value) (g : Nat) (fg : List Value) (p0 : Int32) (p1 : Int32) (hx_3 : fx[3]? = some (.ref g)) (hg_1 : fg[1]? = some (.int 0)) : Met l yX10_bent (px_w yX10_bent cX10_bent 3 (some .int)) ({ frames := 1, cells := 0, slots := 0, locals := 21 }) (va_Pc [.ref x, .int p0, .int p1] (px_P D y sz [(x, .inr (10, fx)), (g, .inr (2, fg))])) (vp_Si (fun r : Int32 => r = (-1))) 0 0 (fun _ => False) := by
  refine Met.ofW (cc := cX10_bent) (maxL := 3) (ret := (some .int)) (by decide) rfl ?_
  intro p e s m args below meth c s₁ B hml hv
  obtain ⟨rfl, hsz, hP, hK, hD0⟩ := hv
  have hx := B.exec
  have hb := B.bytes
  have hr := B.returns
  have hts := atoms_spec (ws := px_w yX10_bent cX10_bent 3 (some .int)) B.pre
  have hg : ∀ w ∈ gw, w.before [.ref x, .int p0, .int p1].toArray s = true := fun w h => hts w (List.mem_cons_of_mem _ h)
  have hown : s.vm.findClass RX10 = some m.cls := findClass_of_methodNamed B.named
  have hlocks := B.notSynchronized
  subst hsz
  have hD := hD0
  have hP : va_P D vwCl [(x, .inr (10, fx)), (g, .inr (2, fg))] s.heap := hP
  have hl := lv_entry ([.ref x, .int p0, .int p1]) (n := 3) (Nat.le_of_ble_eq_true rfl)
  rw [lg_entry_eq]
  generalize (lg_sl ([.ref x, .int p0, .int p1]) ++ List.replicate (3 - (lg_sl ([.ref x, .int p0, .int p1])).length) Slot.unset).toArray = ls at hl ⊢
  have hl : lv_has ls 3 [(0, .ref x), (1, .int p0), (2, .int p1)] := hl
  refine lv_aload_n hx hb dX10_bent_0 rfl (lv_at hl 0 rfl) ?_
  refine va_get (D := D) (ci := 10) (v := .ref g) (C := RX10) (T := TX10) (N := 20) hx hb hg inGX10 hown hK hP 0 rfl rfl 3 (by decide) (hg _ q_2_106) (fun _ h9 => h9) hx_3 dX10_bent_1 ?_
  refine lv_iload_n hx hb dX10_bent_4 rfl (lv_at hl 1 rfl) ?_
  have hPc_1 := hP.sub (ws' := [(g, .inr (2, fg))]) [1] rfl
  have hDc_1 := hD.sub (ws' := [(g, .inr (2, fg))]) [1] (by decide) rfl
  refine vp_callSi (va_Run.run (va_runV (As := [.int p0]) (rest := []) ⟨hx, hb, hml, hown, hg⟩ (c_X2_hasPerson l D y s.heap.size g fg p0 hg_1) (cwV 1 hg (px_gV q_3_115 q_3_116 q_3_117 q_1_2 q_3_118) rfl rfl rfl (by decide +kernel) ⟨Nat.le_of_ble_eq_true rfl, Nat.le_of_ble_eq_true rfl⟩) (px_preV hK hPc_1 hDc_1 (ci := 2) (q0 := 0) rfl rfl) rfl rfl hl.1 rfl (lv_room (Nat.le_of_ble_eq_true rfl)) dX10_bent_5 ⟨Nat.le_of_ble_eq_true rfl, Nat.le_of_ble_eq_true rfl⟩)) (fun r_1 hw_1 => ?_)
  obtain rfl : r_1 = 0 := hw_1
  refine lv_if_eq (tgt := 31) hx hb dX10_bent_8 (by decide) (fun _ => ?_) (fun c_2 => absurd c_2 (by decide))
  refine lv_iconst (v := (-1)) hx hb dX10_bent_31 (by decide) ?_
  exact W.iret (v := (-1)) hx hb hr (fun t ht hW => ⟨_, rfl, rfl, ht⟩) (fun q h => by cases h) dX10_bent_32

set_option maxHeartbeats 4000000 in
set_option maxRecDepth 100000 in
theorem c_X5_takeBack (l : Launch) (D : va_G) (y : Nat → ClassId) (sz : Nat) (pa : Nat) (g : Nat) (fg : List Value) (fpa : List Value) (hpa_1 : fpa[1]? = some (.int 0)) (hpa_2 : fpa[2]? = some (.int 0)) : Met l yX5_takeBack (px_w yX5_takeBack cX5_takeBack 3 (some .boolean)) ({ frames := 0, cells := 0, slots := 0, locals := 0 }) (va_Pc [.ref pa, .ref g] (px_P D y sz [(g, .inr (2, fg)), (pa, .inr (5, fpa))])) (vp_Si (fun r : Int32 => r = 0)) 0 0 (fun _ => False) := by
  refine Met.ofW (cc := cX5_takeBack) (maxL := 3) (ret := (some .boolean)) (by decide) rfl ?_
  intro p e s m args below meth c s₁ B hml hv
  obtain ⟨rfl, hsz, hP, hK, hD0⟩ := hv
  have hx := B.exec
  have hb := B.bytes
  have hr := B.returns
  have hts := atoms_spec (ws := px_w yX5_takeBack cX5_takeBack 3 (some .boolean)) B.pre
  have hg : ∀ w ∈ gw, w.before [.ref pa, .ref g].toArray s = true := fun w h => hts w (List.mem_cons_of_mem _ h)
  have hown : s.vm.findClass RX5 = some m.cls := findClass_of_methodNamed B.named
  have hlocks := B.notSynchronized
  subst hsz
  have hD := hD0
  have hP : va_P D vwCl [(g, .inr (2, fg)), (pa, .inr (5, fpa))] s.heap := hP
  have hl := lv_entry ([.ref pa, .ref g]) (n := 3) (Nat.le_of_ble_eq_true rfl)
  rw [lg_entry_eq]
  generalize (lg_sl ([.ref pa, .ref g]) ++ List.replicate (3 - (lg_sl ([.ref pa, .ref g])).length) Slot.unset).toArray = ls at hl ⊢
  have hl : lv_has ls 3 [(0, .ref pa), (1, .ref g)] := hl
  refine lv_aload_n hx hb dX5_takeBack_0 rfl (lv_at hl 0 rfl) ?_
  refine va_get (D := D) (ci := 5) (v := .int 0) (C := RX5) (T := TX5) (N := 3) hx hb hg inGX5 hown hK hP 1 rfl rfl 1 (by decide) (hg _ q_2_91) (fun _ h9 => h9) hpa_1 dX5_takeBack_1 ?_
  refine lv_if_le (tgt := 16) hx hb dX5_takeBack_4 (by decide) (fun _ => ?_) (fun c_1 => absurd c_1 (by decide))
  refine lv_bipush (v := 7) hx hb dX5_takeBack_16 (by decide) ?_
  refine lv_istore_n (lv' := [(2, .int 7), (0, .ref pa), (1, .ref g)]) hx hb dX5_takeBack_18 rfl hl (by decide) rfl (fun ls hl => ?_)
  refine lv_aload_n hx hb dX5_takeBack_19 rfl (lv_at hl 1 rfl) ?_
  refine va_get (D := D) (ci := 5) (v := .int 0) (C := RX5) (T := TX5) (N := 3) hx hb hg inGX5 hown hK hP 1 rfl rfl 2 (by decide) (hg _ q_2_92) (fun _ h9 => h9) hpa_2 dX5_takeBack_20 ?_
  refine lv_if_eq (tgt := 35) hx hb dX5_takeBack_23 (by decide) (fun _ => ?_) (fun c_2 => absurd c_2 (by decide))
  refine lv_iconst (v := 0) hx hb dX5_takeBack_35 (by decide) ?_
  exact W.zret (v := 0) hx hb hr (by decide) (fun t ht hW => ⟨_, rfl, rfl, ht⟩) (fun q h => by cases h) dX5_takeBack_36

set_option maxHeartbeats 4000000 in
set_option maxRecDepth 100000 in
theorem c_X10_undo (l : Launch) (D : va_G) (y : Nat → ClassId) (sz : Nat) (x : Nat) (fx : List Value) (g : Nat) (pa : Nat) (fg : List Value) (fpa : List Value) (hx_3 : fx[3]? = some (.ref g)) (hx_10 : fx[10]? = some (.ref pa)) (hpa_1 : fpa[1]? = some (.int 0)) (hpa_2 : fpa[2]? = some (.int 0)) : Met l yX10_undo (px_w yX10_undo cX10_undo 1 (some .int)) ({ frames := 1, cells := 0, slots := 0, locals := 22 }) (va_Pc [.ref x] (px_P D y sz [(x, .inr (10, fx)), (g, .inr (2, fg)), (pa, .inr (5, fpa))])) (vp_Si (fun r : Int32 => r = (-1))) 0 0 (fun _ => False) := by
  refine Met.ofW (cc := cX10_undo) (maxL := 1) (ret := (some .int)) (by decide) rfl ?_
  intro p e s m args below meth c s₁ B hml hv
  obtain ⟨rfl, hsz, hP, hK, hD0⟩ := hv
  have hx := B.exec
  have hb := B.bytes
  have hr := B.returns
  have hts := atoms_spec (ws := px_w yX10_undo cX10_undo 1 (some .int)) B.pre
  have hg : ∀ w ∈ gw, w.before [.ref x].toArray s = true := fun w h => hts w (List.mem_cons_of_mem _ h)
  have hown : s.vm.findClass RX10 = some m.cls := findClass_of_methodNamed B.named
  have hlocks := B.notSynchronized
  subst hsz
  have hD := hD0
  have hP : va_P D vwCl [(x, .inr (10, fx)), (g, .inr (2, fg)), (pa, .inr (5, fpa))] s.heap := hP
  have hl := lv_entry ([.ref x]) (n := 1) (Nat.le_of_ble_eq_true rfl)
  rw [lg_entry_eq]
  generalize (lg_sl ([.ref x]) ++ List.replicate (1 - (lg_sl ([.ref x])).length) Slot.unset).toArray = ls at hl ⊢
  have hl : lv_has ls 1 [(0, .ref x)] := hl
  refine lv_aload_n hx hb dX10_undo_0 rfl (lv_at hl 0 rfl) ?_
  refine va_get (D := D) (ci := 10) (v := .ref pa) (C := RX10) (T := TX10) (N := 20) hx hb hg inGX10 hown hK hP 0 rfl rfl 10 (by decide) (hg _ q_2_113) (fun _ h9 => h9) hx_10 dX10_undo_1 ?_
  refine lv_aload_n hx hb dX10_undo_4 rfl (lv_at hl 0 rfl) ?_
  refine va_get (D := D) (ci := 10) (v := .ref g) (C := RX10) (T := TX10) (N := 20) hx hb hg inGX10 hown hK hP 0 rfl rfl 3 (by decide) (hg _ q_2_106) (fun _ h9 => h9) hx_3 dX10_undo_5 ?_
  have hPc_1 := hP.sub (ws' := [(g, .inr (2, fg)), (pa, .inr (5, fpa))]) [1, 2] rfl
  have hDc_1 := hD.sub (ws' := [(g, .inr (2, fg)), (pa, .inr (5, fpa))]) [1, 2] (by decide) rfl
  refine vp_callSi (va_Run.run (va_runV (As := [.ref g]) (rest := []) ⟨hx, hb, hml, hown, hg⟩ (c_X5_takeBack l D y s.heap.size pa g fg fpa hpa_1 hpa_2) (cwV 1 hg (px_gV q_3_220 q_3_221 q_3_222 q_1_14 q_3_223) rfl rfl rfl (by decide +kernel) ⟨Nat.le_of_ble_eq_true rfl, Nat.le_of_ble_eq_true rfl⟩) (px_preV hK hPc_1 hDc_1 (ci := 5) (q0 := 1) rfl rfl) rfl rfl hl.1 rfl (lv_room (Nat.le_of_ble_eq_true rfl)) dX10_undo_8 ⟨Nat.le_of_ble_eq_true rfl, Nat.le_of_ble_eq_true rfl⟩)) (fun r_1 hw_1 => ?_)
  obtain rfl : r_1 = 0 := hw_1
  refine lv_if_eq (tgt := 24) hx hb dX10_undo_11 (by decide) (fun _ => ?_) (fun c_2 => absurd c_2 (by decide))
  refine lv_iconst (v := (-1)) hx hb dX10_undo_24 (by decide) ?_
  exact W.iret (v := (-1)) hx hb hr (fun t ht hW => ⟨_, rfl, rfl, ht⟩) (fun q h => by cases h) dX10_undo_25

set_option maxHeartbeats 4000000 in
set_option maxRecDepth 100000 in
theorem c_X2_canDeal (l : Launch) (D : va_G) (y : Nat → ClassId) (sz : Nat) (g : Nat) (fg : List Value) (p0 : Int32) (hg_1 : fg[1]? = some (.int 0)) : Met l yX2_canDeal (px_w yX2_canDeal cX2_canDeal 2 (some .boolean)) ({ frames := 0, cells := 0, slots := 0, locals := 0 }) (va_Pc [.ref g, .int p0] (px_P D y sz [(g, .inr (2, fg))])) (vp_Si (fun r : Int32 => r = 0)) 0 0 (fun _ => False) := by
  refine Met.ofW (cc := cX2_canDeal) (maxL := 2) (ret := (some .boolean)) (by decide) rfl ?_
  intro p e s m args below meth c s₁ B hml hv
  obtain ⟨rfl, hsz, hP, hK, hD0⟩ := hv
  have hx := B.exec
  have hb := B.bytes
  have hr := B.returns
  have hts := atoms_spec (ws := px_w yX2_canDeal cX2_canDeal 2 (some .boolean)) B.pre
  have hg : ∀ w ∈ gw, w.before [.ref g, .int p0].toArray s = true := fun w h => hts w (List.mem_cons_of_mem _ h)
  have hown : s.vm.findClass RX2 = some m.cls := findClass_of_methodNamed B.named
  have hlocks := B.notSynchronized
  subst hsz
  have hD := hD0
  have hP : va_P D vwCl [(g, .inr (2, fg))] s.heap := hP
  have hl := lv_entry ([.ref g, .int p0]) (n := 2) (Nat.le_of_ble_eq_true rfl)
  rw [lg_entry_eq]
  generalize (lg_sl ([.ref g, .int p0]) ++ List.replicate (2 - (lg_sl ([.ref g, .int p0])).length) Slot.unset).toArray = ls at hl ⊢
  have hl : lv_has ls 2 [(0, .ref g), (1, .int p0)] := hl
  refine lv_aload_n hx hb dX2_canDeal_0 rfl (lv_at hl 0 rfl) ?_
  refine va_get (D := D) (ci := 2) (v := .int 0) (C := RX2) (T := TX2) (N := 18) hx hb hg inGX2 hown hK hP 0 rfl rfl 1 (by decide) (hg _ q_1_70) (fun _ h9 => h9) hg_1 dX2_canDeal_1 ?_
  refine lv_if_le (tgt := 33) hx hb dX2_canDeal_4 (by decide) (fun _ => ?_) (fun c_1 => absurd c_1 (by decide))
  refine lv_iconst (v := 0) hx hb dX2_canDeal_33 (by decide) ?_
  exact W.zret (v := 0) hx hb hr (by decide) (fun t ht hW => ⟨_, rfl, rfl, ht⟩) (fun q h => by cases h) dX2_canDeal_34

set_option maxHeartbeats 4000000 in
set_option maxRecDepth 100000 in
theorem c_X10_deal (l : Launch) (D : va_G) (y : Nat → ClassId) (sz : Nat) (x : Nat) (fx : List Value) (g : Nat) (fg : List Value) (p0 : Int32) (p1 : Int32) (hx_3 : fx[3]? = some (.ref g)) (hg_1 : fg[1]? = some (.int 0)) : Met l yX10_deal (px_w yX10_deal cX10_deal 3 (some .boolean)) ({ frames := 1, cells := 0, slots := 0, locals := 21 }) (va_Pc [.ref x, .int p0, .int p1] (px_P D y sz [(x, .inr (10, fx)), (g, .inr (2, fg))])) (vp_Si (fun r : Int32 => r = 0)) 0 0 (fun _ => False) := by
  refine Met.ofW (cc := cX10_deal) (maxL := 3) (ret := (some .boolean)) (by decide) rfl ?_
  intro p e s m args below meth c s₁ B hml hv
  obtain ⟨rfl, hsz, hP, hK, hD0⟩ := hv
  have hx := B.exec
  have hb := B.bytes
  have hr := B.returns
  have hts := atoms_spec (ws := px_w yX10_deal cX10_deal 3 (some .boolean)) B.pre
  have hg : ∀ w ∈ gw, w.before [.ref x, .int p0, .int p1].toArray s = true := fun w h => hts w (List.mem_cons_of_mem _ h)
  have hown : s.vm.findClass RX10 = some m.cls := findClass_of_methodNamed B.named
  have hlocks := B.notSynchronized
  subst hsz
  have hD := hD0
  have hP : va_P D vwCl [(x, .inr (10, fx)), (g, .inr (2, fg))] s.heap := hP
  have hl := lv_entry ([.ref x, .int p0, .int p1]) (n := 3) (Nat.le_of_ble_eq_true rfl)
  rw [lg_entry_eq]
  generalize (lg_sl ([.ref x, .int p0, .int p1]) ++ List.replicate (3 - (lg_sl ([.ref x, .int p0, .int p1])).length) Slot.unset).toArray = ls at hl ⊢
  have hl : lv_has ls 3 [(0, .ref x), (1, .int p0), (2, .int p1)] := hl
  refine lv_iload_n hx hb dX10_deal_0 rfl (lv_at hl 1 rfl) ?_
  refine lv_iconst (v := 1) hx hb dX10_deal_1 (by decide) ?_
  refine lv_icmp_lt (tgt := 22) hx hb dX10_deal_2 (by decide) (fun c_1 => ?_) (fun c_1 => ?_)
  · refine lv_iconst (v := 0) hx hb dX10_deal_22 (by decide) ?_
    exact W.zret (v := 0) hx hb hr (by decide) (fun t ht hW => ⟨_, rfl, rfl, ht⟩) (fun q h => by cases h) dX10_deal_23
  · refine lv_iload_n hx hb dX10_deal_5 rfl (lv_at hl 1 rfl) ?_
    refine lv_bipush (v := 9) hx hb dX10_deal_6 (by decide) ?_
    refine lv_icmp_gt (tgt := 22) hx hb dX10_deal_8 (by decide) (fun c_2 => ?_) (fun c_2 => ?_)
    · refine lv_iconst (v := 0) hx hb dX10_deal_22 (by decide) ?_
      exact W.zret (v := 0) hx hb hr (by decide) (fun t ht hW => ⟨_, rfl, rfl, ht⟩) (fun q h => by cases h) dX10_deal_23
    · refine lv_aload_n hx hb dX10_deal_11 rfl (lv_at hl 0 rfl) ?_
      refine va_get (D := D) (ci := 10) (v := .ref g) (C := RX10) (T := TX10) (N := 20) hx hb hg inGX10 hown hK hP 0 rfl rfl 3 (by decide) (hg _ q_2_106) (fun _ h9 => h9) hx_3 dX10_deal_12 ?_
      refine lv_iload_n hx hb dX10_deal_15 rfl (lv_at hl 1 rfl) ?_
      have hPc_3 := hP.sub (ws' := [(g, .inr (2, fg))]) [1] rfl
      have hDc_3 := hD.sub (ws' := [(g, .inr (2, fg))]) [1] (by decide) rfl
      refine vp_callSi (va_Run.run (va_runV (As := [.int p0]) (rest := []) ⟨hx, hb, hml, hown, hg⟩ (c_X2_canDeal l D y s.heap.size g fg p0 hg_1) (cwV 1 hg (px_gV q_5_51 q_5_52 q_5_53 q_1_2 q_5_54) rfl rfl rfl (by decide +kernel) ⟨Nat.le_of_ble_eq_true rfl, Nat.le_of_ble_eq_true rfl⟩) (px_preV hK hPc_3 hDc_3 (ci := 2) (q0 := 0) rfl rfl) rfl rfl hl.1 rfl (lv_room (Nat.le_of_ble_eq_true rfl)) dX10_deal_16 ⟨Nat.le_of_ble_eq_true rfl, Nat.le_of_ble_eq_true rfl⟩)) (fun r_3 hw_3 => ?_)
      obtain rfl : r_3 = 0 := hw_3
      refine lv_if_ne (tgt := 24) hx hb dX10_deal_19 (by decide) (fun c_4 => absurd c_4 (by decide)) (fun _ => ?_)
      refine lv_iconst (v := 0) hx hb dX10_deal_22 (by decide) ?_
      exact W.zret (v := 0) hx hb hr (by decide) (fun t ht hW => ⟨_, rfl, rfl, ht⟩) (fun q h => by cases h) dX10_deal_23

set_option maxHeartbeats 4000000 in
set_option maxRecDepth 100000 in
theorem c_X10_areGames (l : Launch) (D : va_G) (y : Nat → ClassId) (sz : Nat) (x : Nat) (fx : List Value) (g : Nat) (fg : List Value) (p0 : Int32) (p1 : Int32) (p2 : Int32) (hx_3 : fx[3]? = some (.ref g)) (hg_1 : fg[1]? = some (.int 0)) : Met l yX10_areGames (px_w yX10_areGames cX10_areGames 4 (some .boolean)) ({ frames := 1, cells := 0, slots := 0, locals := 21 }) (va_Pc [.ref x, .int p0, .int p1, .int p2] (px_P D y sz [(x, .inr (10, fx)), (g, .inr (2, fg))])) (vp_Si (fun r : Int32 => r = 0)) 0 0 (fun _ => False) := by
  refine Met.ofW (cc := cX10_areGames) (maxL := 4) (ret := (some .boolean)) (by decide) rfl ?_
  intro p e s m args below meth c s₁ B hml hv
  obtain ⟨rfl, hsz, hP, hK, hD0⟩ := hv
  have hx := B.exec
  have hb := B.bytes
  have hr := B.returns
  have hts := atoms_spec (ws := px_w yX10_areGames cX10_areGames 4 (some .boolean)) B.pre
  have hg : ∀ w ∈ gw, w.before [.ref x, .int p0, .int p1, .int p2].toArray s = true := fun w h => hts w (List.mem_cons_of_mem _ h)
  have hown : s.vm.findClass RX10 = some m.cls := findClass_of_methodNamed B.named
  have hlocks := B.notSynchronized
  subst hsz
  have hD := hD0
  have hP : va_P D vwCl [(x, .inr (10, fx)), (g, .inr (2, fg))] s.heap := hP
  have hl := lv_entry ([.ref x, .int p0, .int p1, .int p2]) (n := 4) (Nat.le_of_ble_eq_true rfl)
  rw [lg_entry_eq]
  generalize (lg_sl ([.ref x, .int p0, .int p1, .int p2]) ++ List.replicate (4 - (lg_sl ([.ref x, .int p0, .int p1, .int p2])).length) Slot.unset).toArray = ls at hl ⊢
  have hl : lv_has ls 4 [(0, .ref x), (1, .int p0), (2, .int p1), (3, .int p2)] := hl
  refine lv_aload_n hx hb dX10_areGames_0 rfl (lv_at hl 0 rfl) ?_
  refine lv_iload_n hx hb dX10_areGames_1 rfl (lv_at hl 1 rfl) ?_
  have hPc_1 := hP.sub (ws' := [(x, .inr (10, fx))]) [0] rfl
  have hDc_1 := hD.sub (ws' := [(x, .inr (10, fx))]) [0] (by decide) rfl
  refine vp_callSi (va_Run.run (va_runV (As := [.int p0]) (rest := []) ⟨hx, hb, hml, hown, hg⟩ (c_X10_isRule l D y s.heap.size x fx p0 ) (cwV 1 hg (px_gV q_5_10 q_5_12 q_p_39 q_1_1 q_5_13) rfl rfl rfl (by decide +kernel) ⟨Nat.le_of_ble_eq_true rfl, Nat.le_of_ble_eq_true rfl⟩) (px_preV hK hPc_1 hDc_1 (ci := 10) (q0 := 0) rfl rfl) rfl rfl hl.1 rfl (lv_room (Nat.le_of_ble_eq_true rfl)) dX10_areGames_2 ⟨Nat.le_of_ble_eq_true rfl, Nat.le_of_ble_eq_true rfl⟩)) (fun r_1 hw_1 => ?_)
  refine lv_if_eq (tgt := 53) hx hb dX10_areGames_5 (by decide) (fun c_2 => ?_) (fun c_2 => ?_)
  · refine lv_iconst (v := 0) hx hb dX10_areGames_53 (by decide) ?_
    exact W.zret (v := 0) hx hb hr (by decide) (fun t ht hW => ⟨_, rfl, rfl, ht⟩) (fun q h => by cases h) dX10_areGames_54
  · refine lv_aload_n hx hb dX10_areGames_8 rfl (lv_at hl 0 rfl) ?_
    refine lv_iload_n hx hb dX10_areGames_9 rfl (lv_at hl 2 rfl) ?_
    have hPc_3 := hP.sub (ws' := [(x, .inr (10, fx))]) [0] rfl
    have hDc_3 := hD.sub (ws' := [(x, .inr (10, fx))]) [0] (by decide) rfl
    refine vp_callSi (va_Run.run (va_runV (As := [.int p1]) (rest := []) ⟨hx, hb, hml, hown, hg⟩ (c_X10_isRule l D y s.heap.size x fx p1 ) (cwV 1 hg (px_gV q_5_10 q_5_12 q_p_39 q_1_1 q_5_13) rfl rfl rfl (by decide +kernel) ⟨Nat.le_of_ble_eq_true rfl, Nat.le_of_ble_eq_true rfl⟩) (px_preV hK hPc_3 hDc_3 (ci := 10) (q0 := 0) rfl rfl) rfl rfl hl.1 rfl (lv_room (Nat.le_of_ble_eq_true rfl)) dX10_areGames_10 ⟨Nat.le_of_ble_eq_true rfl, Nat.le_of_ble_eq_true rfl⟩)) (fun r_3 hw_3 => ?_)
    refine lv_if_eq (tgt := 53) hx hb dX10_areGames_13 (by decide) (fun c_4 => ?_) (fun c_4 => ?_)
    · refine lv_iconst (v := 0) hx hb dX10_areGames_53 (by decide) ?_
      exact W.zret (v := 0) hx hb hr (by decide) (fun t ht hW => ⟨_, rfl, rfl, ht⟩) (fun q h => by cases h) dX10_areGames_54
    · refine lv_iload_n hx hb dX10_areGames_16 rfl (lv_at hl 3 rfl) ?_
      refine lv_iconst (v := 1) hx hb dX10_areGames_17 (by decide) ?_
      refine lv_icmp_lt (tgt := 53) hx hb dX10_areGames_18 (by decide) (fun c_5 => ?_) (fun c_5 => ?_)
      · refine lv_iconst (v := 0) hx hb dX10_areGames_53 (by decide) ?_
        exact W.zret (v := 0) hx hb hr (by decide) (fun t ht hW => ⟨_, rfl, rfl, ht⟩) (fun q h => by cases h) dX10_areGames_54
      · refine lv_iload_n hx hb dX10_areGames_21 rfl (lv_at hl 3 rfl) ?_
        refine lv_bipush (v := 30) hx hb dX10_areGames_22 (by decide) ?_
        refine lv_icmp_gt (tgt := 53) hx hb dX10_areGames_24 (by decide) (fun c_6 => ?_) (fun c_6 => ?_)
        · refine lv_iconst (v := 0) hx hb dX10_areGames_53 (by decide) ?_
          exact W.zret (v := 0) hx hb hr (by decide) (fun t ht hW => ⟨_, rfl, rfl, ht⟩) (fun q h => by cases h) dX10_areGames_54
        · refine lv_aload_n hx hb dX10_areGames_27 rfl (lv_at hl 0 rfl) ?_
          refine va_get (D := D) (ci := 10) (v := .ref g) (C := RX10) (T := TX10) (N := 20) hx hb hg inGX10 hown hK hP 0 rfl rfl 3 (by decide) (hg _ q_2_106) (fun _ h9 => h9) hx_3 dX10_areGames_28 ?_
          refine va_get (D := D) (ci := 2) (v := .int 0) (C := RX2) (T := TX2) (N := 18) hx hb hg inGX2 hown hK hP 1 rfl rfl 1 (by decide) (hg _ q_1_73) (fun _ h9 => h9) hg_1 dX10_areGames_31 ?_
          refine lv_iconst (v := 2) hx hb dX10_areGames_34 (by decide) ?_
          refine lv_icmp_lt (tgt := 53) hx hb dX10_areGames_35 (by decide) (fun _ => ?_) (fun c_7 => absurd c_7 (by decide))
          refine lv_iconst (v := 0) hx hb dX10_areGames_53 (by decide) ?_
          exact W.zret (v := 0) hx hb hr (by decide) (fun t ht hW => ⟨_, rfl, rfl, ht⟩) (fun q h => by cases h) dX10_areGames_54

set_option maxHeartbeats 4000000 in
set_option maxRecDepth 100000 in
theorem c_X10_games (l : Launch) (D : va_G) (y : Nat → ClassId) (sz : Nat) (x : Nat) (fx : List Value) (g : Nat) (fg : List Value) (p0 : Int32) (p1 : Int32) (p2 : Int32) (p3 : Int32) (hx_3 : fx[3]? = some (.ref g)) (hg_1 : fg[1]? = some (.int 0)) : Met l yX10_games (px_w yX10_games cX10_games 5 (some .int)) ({ frames := 2, cells := 0, slots := 0, locals := 44 }) (va_Pc [.ref x, .int p0, .int p1, .int p2, .int p3] (px_P D y sz [(x, .inr (10, fx)), (g, .inr (2, fg))])) (vp_Si (fun r : Int32 => r = (-1))) 0 0 (fun _ => False) := by
  refine Met.ofW (cc := cX10_games) (maxL := 5) (ret := (some .int)) (by decide) rfl ?_
  intro p e s m args below meth c s₁ B hml hv
  obtain ⟨rfl, hsz, hP, hK, hD0⟩ := hv
  have hx := B.exec
  have hb := B.bytes
  have hr := B.returns
  have hts := atoms_spec (ws := px_w yX10_games cX10_games 5 (some .int)) B.pre
  have hg : ∀ w ∈ gw, w.before [.ref x, .int p0, .int p1, .int p2, .int p3].toArray s = true := fun w h => hts w (List.mem_cons_of_mem _ h)
  have hown : s.vm.findClass RX10 = some m.cls := findClass_of_methodNamed B.named
  have hlocks := B.notSynchronized
  subst hsz
  have hD := hD0
  have hP : va_P D vwCl [(x, .inr (10, fx)), (g, .inr (2, fg))] s.heap := hP
  have hl := lv_entry ([.ref x, .int p0, .int p1, .int p2, .int p3]) (n := 5) (Nat.le_of_ble_eq_true rfl)
  rw [lg_entry_eq]
  generalize (lg_sl ([.ref x, .int p0, .int p1, .int p2, .int p3]) ++ List.replicate (5 - (lg_sl ([.ref x, .int p0, .int p1, .int p2, .int p3])).length) Slot.unset).toArray = ls at hl ⊢
  have hl : lv_has ls 5 [(0, .ref x), (1, .int p0), (2, .int p1), (3, .int p2), (4, .int p3)] := hl
  refine lv_aload_n hx hb dX10_games_0 rfl (lv_at hl 0 rfl) ?_
  refine lv_iload_n hx hb dX10_games_1 rfl (lv_at hl 1 rfl) ?_
  refine lv_iload_n hx hb dX10_games_2 rfl (lv_at hl 2 rfl) ?_
  refine lv_iload_n hx hb dX10_games_3 rfl (lv_at hl 3 rfl) ?_
  have hPc_1 := hP.sub (ws' := [(x, .inr (10, fx)), (g, .inr (2, fg))]) [0, 1] rfl
  have hDc_1 := hD.sub (ws' := [(x, .inr (10, fx)), (g, .inr (2, fg))]) [0, 1] (by decide) rfl
  refine vp_callSi (va_Run.run (va_runV (As := [.int p0, .int p1, .int p2]) (rest := []) ⟨hx, hb, hml, hown, hg⟩ (c_X10_areGames l D y s.heap.size x fx g fg p0 p1 p2 hx_3 hg_1) (cwV 3 hg (px_gV q_5_65 q_5_67 q_p_46 q_1_1 q_5_68) rfl rfl rfl (by decide +kernel) ⟨Nat.le_of_ble_eq_true rfl, Nat.le_of_ble_eq_true rfl⟩) (px_preV hK hPc_1 hDc_1 (ci := 10) (q0 := 0) rfl rfl) rfl rfl hl.1 rfl (lv_room (Nat.le_of_ble_eq_true rfl)) dX10_games_4 ⟨Nat.le_of_ble_eq_true rfl, Nat.le_of_ble_eq_true rfl⟩)) (fun r_1 hw_1 => ?_)
  obtain rfl : r_1 = 0 := hw_1
  refine lv_if_eq (tgt := 23) hx hb dX10_games_7 (by decide) (fun _ => ?_) (fun c_2 => absurd c_2 (by decide))
  refine lv_iconst (v := (-1)) hx hb dX10_games_23 (by decide) ?_
  exact W.iret (v := (-1)) hx hb hr (fun t ht hW => ⟨_, rfl, rfl, ht⟩) (fun q h => by cases h) dX10_games_24

set_option maxHeartbeats 4000000 in
set_option maxRecDepth 100000 in
theorem c_X10_length (l : Launch) (D : va_G) (y : Nat → ClassId) (sz : Nat) (x : Nat) (fx : List Value) (g : Nat) (fg : List Value) (p0 : Int32) (p1 : Int32) (p2 : Int32) (p3 : Int32) (hx_3 : fx[3]? = some (.ref g)) (hg_1 : fg[1]? = some (.int 0)) : Met l yX10_length (px_w yX10_length cX10_length 5 (some .int)) ({ frames := 2, cells := 0, slots := 0, locals := 44 }) (va_Pc [.ref x, .int p0, .int p1, .int p2, .int p3] (px_P D y sz [(x, .inr (10, fx)), (g, .inr (2, fg))])) (vp_Si (fun r : Int32 => r = (-1))) 0 0 (fun _ => False) := by
  refine Met.ofW (cc := cX10_length) (maxL := 5) (ret := (some .int)) (by decide) rfl ?_
  intro p e s m args below meth c s₁ B hml hv
  obtain ⟨rfl, hsz, hP, hK, hD0⟩ := hv
  have hx := B.exec
  have hb := B.bytes
  have hr := B.returns
  have hts := atoms_spec (ws := px_w yX10_length cX10_length 5 (some .int)) B.pre
  have hg : ∀ w ∈ gw, w.before [.ref x, .int p0, .int p1, .int p2, .int p3].toArray s = true := fun w h => hts w (List.mem_cons_of_mem _ h)
  have hown : s.vm.findClass RX10 = some m.cls := findClass_of_methodNamed B.named
  have hlocks := B.notSynchronized
  subst hsz
  have hD := hD0
  have hP : va_P D vwCl [(x, .inr (10, fx)), (g, .inr (2, fg))] s.heap := hP
  have hl := lv_entry ([.ref x, .int p0, .int p1, .int p2, .int p3]) (n := 5) (Nat.le_of_ble_eq_true rfl)
  rw [lg_entry_eq]
  generalize (lg_sl ([.ref x, .int p0, .int p1, .int p2, .int p3]) ++ List.replicate (5 - (lg_sl ([.ref x, .int p0, .int p1, .int p2, .int p3])).length) Slot.unset).toArray = ls at hl ⊢
  have hl : lv_has ls 5 [(0, .ref x), (1, .int p0), (2, .int p1), (3, .int p2), (4, .int p3)] := hl
  refine lv_aload_n hx hb dX10_length_0 rfl (lv_at hl 0 rfl) ?_
  refine lv_iload_n hx hb dX10_length_1 rfl (lv_at hl 1 rfl) ?_
  refine lv_iload_n hx hb dX10_length_2 rfl (lv_at hl 2 rfl) ?_
  refine lv_iload_n hx hb dX10_length_3 rfl (lv_at hl 3 rfl) ?_
  have hPc_1 := hP.sub (ws' := [(x, .inr (10, fx)), (g, .inr (2, fg))]) [0, 1] rfl
  have hDc_1 := hD.sub (ws' := [(x, .inr (10, fx)), (g, .inr (2, fg))]) [0, 1] (by decide) rfl
  refine vp_callSi (va_Run.run (va_runV (As := [.int p0, .int p1, .int p2]) (rest := []) ⟨hx, hb, hml, hown, hg⟩ (c_X10_areGames l D y s.heap.size x fx g fg p0 p1 p2 hx_3 hg_1) (cwV 3 hg (px_gV q_5_65 q_5_67 q_p_46 q_1_1 q_5_68) rfl rfl rfl (by decide +kernel) ⟨Nat.le_of_ble_eq_true rfl, Nat.le_of_ble_eq_true rfl⟩) (px_preV hK hPc_1 hDc_1 (ci := 10) (q0 := 0) rfl rfl) rfl rfl hl.1 rfl (lv_room (Nat.le_of_ble_eq_true rfl)) dX10_length_4 ⟨Nat.le_of_ble_eq_true rfl, Nat.le_of_ble_eq_true rfl⟩)) (fun r_1 hw_1 => ?_)
  obtain rfl : r_1 = 0 := hw_1
  refine lv_if_eq (tgt := 23) hx hb dX10_length_7 (by decide) (fun _ => ?_) (fun c_2 => absurd c_2 (by decide))
  refine lv_iconst (v := (-1)) hx hb dX10_length_23 (by decide) ?_
  exact W.iret (v := (-1)) hx hb hr (fun t ht hW => ⟨_, rfl, rfl, ht⟩) (fun q h => by cases h) dX10_length_24

set_option maxHeartbeats 4000000 in
set_option maxRecDepth 100000 in
theorem c_X10_reply (l : Launch) (D : va_G) (y : Nat → ClassId) (sz : Nat) (x : Nat) (fx : List Value) (g : Nat) (fg : List Value) (p0 : Int32) (p1 : Int32) (p2 : Int32) (hx_3 : fx[3]? = some (.ref g)) (hg_1 : fg[1]? = some (.int 0)) : Met l yX10_reply (px_w yX10_reply cX10_reply 8 (some .int)) ({ frames := 2, cells := 0, slots := 0, locals := 44 }) (va_Pc [.ref x, .int p0, .int p1, .int p2] (px_P D y sz [(x, .inr (10, fx)), (g, .inr (2, fg))])) (vp_Si (fun r : Int32 => r = (-1))) 0 0 (fun _ => False) := by
  refine Met.ofW (cc := cX10_reply) (maxL := 8) (ret := (some .int)) (by decide) rfl ?_
  intro p e s m args below meth c s₁ B hml hv
  obtain ⟨rfl, hsz, hP, hK, hD0⟩ := hv
  have hx := B.exec
  have hb := B.bytes
  have hr := B.returns
  have hts := atoms_spec (ws := px_w yX10_reply cX10_reply 8 (some .int)) B.pre
  have hg : ∀ w ∈ gw, w.before [.ref x, .int p0, .int p1, .int p2].toArray s = true := fun w h => hts w (List.mem_cons_of_mem _ h)
  have hown : s.vm.findClass RX10 = some m.cls := findClass_of_methodNamed B.named
  have hlocks := B.notSynchronized
  subst hsz
  have hD := hD0
  have hP : va_P D vwCl [(x, .inr (10, fx)), (g, .inr (2, fg))] s.heap := hP
  have hl := lv_entry ([.ref x, .int p0, .int p1, .int p2]) (n := 8) (Nat.le_of_ble_eq_true rfl)
  rw [lg_entry_eq]
  generalize (lg_sl ([.ref x, .int p0, .int p1, .int p2]) ++ List.replicate (8 - (lg_sl ([.ref x, .int p0, .int p1, .int p2])).length) Slot.unset).toArray = ls at hl ⊢
  have hl : lv_has ls 8 [(0, .ref x), (1, .int p0), (2, .int p1), (3, .int p2)] := hl
  refine lv_aload_n hx hb dX10_reply_0 rfl (lv_at hl 0 rfl) ?_
  refine lv_iconst (v := 0) hx hb dX10_reply_1 (by decide) ?_
  refine lv_iload_n hx hb dX10_reply_2 rfl (lv_at hl 1 rfl) ?_
  refine lv_iload_n hx hb dX10_reply_3 rfl (lv_at hl 2 rfl) ?_
  have hPc_1 := hP.sub (ws' := [(x, .inr (10, fx)), (g, .inr (2, fg))]) [0, 1] rfl
  have hDc_1 := hD.sub (ws' := [(x, .inr (10, fx)), (g, .inr (2, fg))]) [0, 1] (by decide) rfl
  refine vp_callSi (va_Run.run (va_runV (As := [.int 0, .int p0, .int p1]) (rest := []) ⟨hx, hb, hml, hown, hg⟩ (c_X10_areGames l D y s.heap.size x fx g fg 0 p0 p1 hx_3 hg_1) (cwV 3 hg (px_gV q_5_65 q_5_67 q_p_46 q_1_1 q_5_68) rfl rfl rfl (by decide +kernel) ⟨Nat.le_of_ble_eq_true rfl, Nat.le_of_ble_eq_true rfl⟩) (px_preV hK hPc_1 hDc_1 (ci := 10) (q0 := 0) rfl rfl) rfl rfl hl.1 rfl (lv_room (Nat.le_of_ble_eq_true rfl)) dX10_reply_4 ⟨Nat.le_of_ble_eq_true rfl, Nat.le_of_ble_eq_true rfl⟩)) (fun r_1 hw_1 => ?_)
  obtain rfl : r_1 = 0 := hw_1
  refine lv_if_ne (tgt := 12) hx hb dX10_reply_7 (by decide) (fun c_2 => absurd c_2 (by decide)) (fun _ => ?_)
  refine lv_iconst (v := (-1)) hx hb dX10_reply_10 (by decide) ?_
  exact W.iret (v := (-1)) hx hb hr (fun t ht hW => ⟨_, rfl, rfl, ht⟩) (fun q h => by cases h) dX10_reply_11

set_option maxHeartbeats 4000000 in
set_option maxRecDepth 100000 in
theorem c_X10_leader (l : Launch) (D : va_G) (y : Nat → ClassId) (sz : Nat) (x : Nat) (fx : List Value) (g : Nat) (fg : List Value) (hx_3 : fx[3]? = some (.ref g)) (hg_1 : fg[1]? = some (.int 0)) : Met l yX10_leader (px_w yX10_leader cX10_leader 5 (some .int)) ({ frames := 0, cells := 0, slots := 0, locals := 0 }) (va_Pc [.ref x] (px_P D y sz [(x, .inr (10, fx)), (g, .inr (2, fg))])) (vp_Si (fun r : Int32 => r = (-1))) 0 0 (fun _ => False) := by
  refine Met.ofW (cc := cX10_leader) (maxL := 5) (ret := (some .int)) (by decide) rfl ?_
  intro p e s m args below meth c s₁ B hml hv
  obtain ⟨rfl, hsz, hP, hK, hD0⟩ := hv
  have hx := B.exec
  have hb := B.bytes
  have hr := B.returns
  have hts := atoms_spec (ws := px_w yX10_leader cX10_leader 5 (some .int)) B.pre
  have hg : ∀ w ∈ gw, w.before [.ref x].toArray s = true := fun w h => hts w (List.mem_cons_of_mem _ h)
  have hown : s.vm.findClass RX10 = some m.cls := findClass_of_methodNamed B.named
  have hlocks := B.notSynchronized
  subst hsz
  have hD := hD0
  have hP : va_P D vwCl [(x, .inr (10, fx)), (g, .inr (2, fg))] s.heap := hP
  have hl := lv_entry ([.ref x]) (n := 5) (Nat.le_of_ble_eq_true rfl)
  rw [lg_entry_eq]
  generalize (lg_sl ([.ref x]) ++ List.replicate (5 - (lg_sl ([.ref x])).length) Slot.unset).toArray = ls at hl ⊢
  have hl : lv_has ls 5 [(0, .ref x)] := hl
  refine lv_iconst (v := (-1)) hx hb dX10_leader_0 (by decide) ?_
  refine lv_istore_n (lv' := [(1, .int (-1)), (0, .ref x)]) hx hb dX10_leader_1 rfl hl (by decide) rfl (fun ls hl => ?_)
  refine lv_iconst (v := (-1)) hx hb dX10_leader_2 (by decide) ?_
  refine lv_istore_n (lv' := [(2, .int (-1)), (1, .int (-1)), (0, .ref x)]) hx hb dX10_leader_3 rfl hl (by decide) rfl (fun ls hl => ?_)
  refine lv_iconst (v := 0) hx hb dX10_leader_4 (by decide) ?_
  refine lv_istore_n (lv' := [(3, .int 0), (2, .int (-1)), (1, .int (-1)), (0, .ref x)]) hx hb dX10_leader_5 rfl hl (by decide) rfl (fun ls hl => ?_)
  refine lv_iload_n hx hb dX10_leader_6 rfl (lv_at hl 0 rfl) ?_
  refine lv_aload_n hx hb dX10_leader_7 rfl (lv_at hl 3 rfl) ?_
  refine va_get (D := D) (ci := 10) (v := .ref g) (C := RX10) (T := TX10) (N := 20) hx hb hg inGX10 hown hK hP 0 rfl rfl 3 (by decide) (hg _ q_2_106) (fun _ h9 => h9) hx_3 dX10_leader_8 ?_
  refine va_get (D := D) (ci := 2) (v := .int 0) (C := RX2) (T := TX2) (N := 18) hx hb hg inGX2 hown hK hP 1 rfl rfl 1 (by decide) (hg _ q_1_73) (fun _ h9 => h9) hg_1 dX10_leader_11 ?_
  refine lv_icmp_ge (tgt := 44) hx hb dX10_leader_14 (by decide) (fun _ => ?_) (fun c_1 => absurd c_1 (by decide))
  refine lv_iload_n hx hb dX10_leader_44 rfl (lv_at hl 2 rfl) ?_
  exact W.iret (v := (-1)) hx hb hr (fun t ht hW => ⟨_, rfl, rfl, ht⟩) (fun q h => by cases h) dX10_leader_45

set_option maxHeartbeats 4000000 in
set_option maxRecDepth 100000 in
theorem c_X10_said (l : Launch) (D : va_G) (y : Nat → ClassId) (sz : Nat) (x : Nat) (fx : List Value) (td : Nat) (ftd : List Value) (p0 : Int32) (hx_5 : fx[5]? = some (.ref td)) (htd_1 : ftd[1]? = some (.int 0)) : Met l yX10_said (px_w yX10_said cX10_said 4 (some .int)) ({ frames := 0, cells := 0, slots := 0, locals := 0 }) (va_Pc [.ref x, .int p0] (px_P D y sz [(x, .inr (10, fx)), (td, .inr (7, ftd))])) (vp_Si (fun r : Int32 => r = (-1))) 0 0 (fun _ => False) := by
  refine Met.ofW (cc := cX10_said) (maxL := 4) (ret := (some .int)) (by decide) rfl ?_
  intro p e s m args below meth c s₁ B hml hv
  obtain ⟨rfl, hsz, hP, hK, hD0⟩ := hv
  have hx := B.exec
  have hb := B.bytes
  have hr := B.returns
  have hts := atoms_spec (ws := px_w yX10_said cX10_said 4 (some .int)) B.pre
  have hg : ∀ w ∈ gw, w.before [.ref x, .int p0].toArray s = true := fun w h => hts w (List.mem_cons_of_mem _ h)
  have hown : s.vm.findClass RX10 = some m.cls := findClass_of_methodNamed B.named
  have hlocks := B.notSynchronized
  subst hsz
  have hD := hD0
  have hP : va_P D vwCl [(x, .inr (10, fx)), (td, .inr (7, ftd))] s.heap := hP
  have hl := lv_entry ([.ref x, .int p0]) (n := 4) (Nat.le_of_ble_eq_true rfl)
  rw [lg_entry_eq]
  generalize (lg_sl ([.ref x, .int p0]) ++ List.replicate (4 - (lg_sl ([.ref x, .int p0])).length) Slot.unset).toArray = ls at hl ⊢
  have hl : lv_has ls 4 [(0, .ref x), (1, .int p0)] := hl
  refine lv_aload_n hx hb dX10_said_0 rfl (lv_at hl 0 rfl) ?_
  refine va_get (D := D) (ci := 10) (v := .ref td) (C := RX10) (T := TX10) (N := 20) hx hb hg inGX10 hown hK hP 0 rfl rfl 5 (by decide) (hg _ q_2_108) (fun _ h9 => h9) hx_5 dX10_said_1 ?_
  refine va_get (D := D) (ci := 7) (v := .int 0) (C := RX7) (T := TX7) (N := 2) hx hb hg inGX7 hown hK hP 1 rfl rfl 1 (by decide) (hg _ q_1_159) (fun _ h9 => h9) htd_1 dX10_said_4 ?_
  refine lv_if_eq (tgt := 15) hx hb dX10_said_7 (by decide) (fun _ => ?_) (fun c_1 => absurd c_1 (by decide))
  refine lv_iconst (v := (-1)) hx hb dX10_said_15 (by decide) ?_
  exact W.iret (v := (-1)) hx hb hr (fun t ht hW => ⟨_, rfl, rfl, ht⟩) (fun q h => by cases h) dX10_said_16

set_option maxHeartbeats 4000000 in
set_option maxRecDepth 100000 in
theorem c_X10_restore (l : Launch) (D : va_G) (y : Nat → ClassId) (sz : Nat) (x : Nat) (fx : List Value) (kg : Nat) (p0 : Int32) (hx_11 : fx[11]? = some (.ref kg)) : Met l yX10_restore (px_w yX10_restore cX10_restore 2 (some .boolean)) ({ frames := 0, cells := 0, slots := 0, locals := 0 }) (va_Pc [.ref x, .int p0] (px_P D y sz [(x, .inr (10, fx)), (kg, .inl (y 4, 2, .inr (.inr (.inr (.inr (fun _ => none))))))])) (vp_Si (fun r : Int32 => r = 0)) 0 0 (fun _ => False) := by
  refine Met.ofW (cc := cX10_restore) (maxL := 2) (ret := (some .boolean)) (by decide) rfl ?_
  intro p e s m args below meth c s₁ B hml hv
  obtain ⟨rfl, hsz, hP, hK, hD0⟩ := hv
  have hx := B.exec
  have hb := B.bytes
  have hr := B.returns
  have hts := atoms_spec (ws := px_w yX10_restore cX10_restore 2 (some .boolean)) B.pre
  have hg : ∀ w ∈ gw, w.before [.ref x, .int p0].toArray s = true := fun w h => hts w (List.mem_cons_of_mem _ h)
  have hown : s.vm.findClass RX10 = some m.cls := findClass_of_methodNamed B.named
  have hlocks := B.notSynchronized
  subst hsz
  have hD := hD0
  have hP : va_P D vwCl [(x, .inr (10, fx)), (kg, .inl (y 4, 2, .inr (.inr (.inr (.inr (fun _ => none))))))] s.heap := hP
  have hl := lv_entry ([.ref x, .int p0]) (n := 2) (Nat.le_of_ble_eq_true rfl)
  rw [lg_entry_eq]
  generalize (lg_sl ([.ref x, .int p0]) ++ List.replicate (2 - (lg_sl ([.ref x, .int p0])).length) Slot.unset).toArray = ls at hl ⊢
  have hl : lv_has ls 2 [(0, .ref x), (1, .int p0)] := hl
  refine lv_iload_n hx hb dX10_restore_0 rfl (lv_at hl 1 rfl) ?_
  refine lv_if_lt (tgt := 27) hx hb dX10_restore_1 (by decide) (fun c_1 => ?_) (fun c_1 => ?_)
  · refine lv_iconst (v := 0) hx hb dX10_restore_27 (by decide) ?_
    exact W.zret (v := 0) hx hb hr (by decide) (fun t ht hW => ⟨_, rfl, rfl, ht⟩) (fun q h => by cases h) dX10_restore_28
  · refine lv_iload_n hx hb dX10_restore_4 rfl (lv_at hl 1 rfl) ?_
    refine lv_iconst (v := 2) hx hb dX10_restore_5 (by decide) ?_
    refine lv_icmp_ge (tgt := 27) hx hb dX10_restore_6 (by decide) (fun c_2 => ?_) (fun c_2 => ?_)
    · refine lv_iconst (v := 0) hx hb dX10_restore_27 (by decide) ?_
      exact W.zret (v := 0) hx hb hr (by decide) (fun t ht hW => ⟨_, rfl, rfl, ht⟩) (fun q h => by cases h) dX10_restore_28
    · refine lv_aload_n hx hb dX10_restore_9 rfl (lv_at hl 0 rfl) ?_
      refine va_get (D := D) (ci := 10) (v := .ref kg) (C := RX10) (T := TX10) (N := 20) hx hb hg inGX10 hown hK hP 0 rfl rfl 11 (by decide) (hg _ q_2_114) (fun _ h9 => h9) hx_11 dX10_restore_10 ?_
      refine lv_iload_n hx hb dX10_restore_13 rfl (lv_at hl 1 rfl) ?_
      obtain ⟨j_3, hj_3, ej_3⟩ := px_split (x := p0) (n := 1) (by decide) (by simp only [Int32.lt_iff_toInt_lt, Int32.le_iff_toInt_le, ← Int32.toInt_inj] at c_1 c_2; have e0 : (0 : Int32).toInt = 0 := rfl; have e1 : (2 : Int32).toInt = 2 := rfl; omega) (by simp only [Int32.lt_iff_toInt_lt, Int32.le_iff_toInt_le, ← Int32.toInt_inj] at c_1 c_2; have e0 : (0 : Int32).toInt = 0 := rfl; have e1 : (2 : Int32).toInt = 2 := rfl; omega)
      rcases (show j_3 = 0 ∨ j_3 = 1 by omega) with rfl | rfl
      · obtain rfl : p0 = 0 := ej_3
        refine va_aldq hx hb hK hP 1 4 rfl rfl (i := 0) (px_in (by decide)) dX10_restore_14 ?_
        refine lv_ifnullN (tgt := 27) hx hb dX10_restore_15 (by decide) ?_
        refine lv_iconst (v := 0) hx hb dX10_restore_27 (by decide) ?_
        exact W.zret (v := 0) hx hb hr (by decide) (fun t ht hW => ⟨_, rfl, rfl, ht⟩) (fun q h => by cases h) dX10_restore_28
      · obtain rfl : p0 = 1 := ej_3
        refine va_aldq hx hb hK hP 1 4 rfl rfl (i := 1) (px_in (by decide)) dX10_restore_14 ?_
        refine lv_ifnullN (tgt := 27) hx hb dX10_restore_15 (by decide) ?_
        refine lv_iconst (v := 0) hx hb dX10_restore_27 (by decide) ?_
        exact W.zret (v := 0) hx hb hr (by decide) (fun t ht hW => ⟨_, rfl, rfl, ht⟩) (fun q h => by cases h) dX10_restore_28

set_option maxHeartbeats 4000000 in
set_option maxRecDepth 100000 in
theorem c_X10_asked (l : Launch) (D : va_G) (y : Nat → ClassId) (sz : Nat) (x : Nat) (fx : List Value) (la : Nat) (fla : Nat → Int32) (p0 : Int32) (hx_13 : fx[13]? = some (.ref la)) (hla_e0 : fla 0 = (-1)) (hla_e1 : fla 1 = (-1)) (hla_e2 : fla 2 = (-1)) (hla_e3 : fla 3 = (-1)) (hla_e4 : fla 4 = (-1)) (hla_e5 : fla 5 = (-1)) (hla_e6 : fla 6 = (-1)) (hla_e7 : fla 7 = (-1)) : Met l yX10_asked (px_w yX10_asked cX10_asked 2 (some .int)) ({ frames := 0, cells := 0, slots := 0, locals := 0 }) (va_Pc [.ref x, .int p0] (px_P D y sz [(x, .inr (10, fx)), (la, .inl (y 1, 8, .inl fla))])) (vp_Si (fun r : Int32 => r = (-1))) 0 0 (fun _ => False) := by
  refine Met.ofW (cc := cX10_asked) (maxL := 2) (ret := (some .int)) (by decide) rfl ?_
  intro p e s m args below meth c s₁ B hml hv
  obtain ⟨rfl, hsz, hP, hK, hD0⟩ := hv
  have hx := B.exec
  have hb := B.bytes
  have hr := B.returns
  have hts := atoms_spec (ws := px_w yX10_asked cX10_asked 2 (some .int)) B.pre
  have hg : ∀ w ∈ gw, w.before [.ref x, .int p0].toArray s = true := fun w h => hts w (List.mem_cons_of_mem _ h)
  have hown : s.vm.findClass RX10 = some m.cls := findClass_of_methodNamed B.named
  have hlocks := B.notSynchronized
  subst hsz
  have hD := hD0
  have hP : va_P D vwCl [(x, .inr (10, fx)), (la, .inl (y 1, 8, .inl fla))] s.heap := hP
  have hl := lv_entry ([.ref x, .int p0]) (n := 2) (Nat.le_of_ble_eq_true rfl)
  rw [lg_entry_eq]
  generalize (lg_sl ([.ref x, .int p0]) ++ List.replicate (2 - (lg_sl ([.ref x, .int p0])).length) Slot.unset).toArray = ls at hl ⊢
  have hl : lv_has ls 2 [(0, .ref x), (1, .int p0)] := hl
  refine lv_iload_n hx hb dX10_asked_0 rfl (lv_at hl 1 rfl) ?_
  refine lv_if_lt (tgt := 19) hx hb dX10_asked_1 (by decide) (fun c_1 => ?_) (fun c_1 => ?_)
  · refine lv_iconst (v := (-1)) hx hb dX10_asked_19 (by decide) ?_
    exact W.iret (v := (-1)) hx hb hr (fun t ht hW => ⟨_, rfl, rfl, ht⟩) (fun q h => by cases h) dX10_asked_20
  · refine lv_iload_n hx hb dX10_asked_4 rfl (lv_at hl 1 rfl) ?_
    refine lv_bipush (v := 8) hx hb dX10_asked_5 (by decide) ?_
    refine lv_icmp_ge (tgt := 19) hx hb dX10_asked_7 (by decide) (fun c_2 => ?_) (fun c_2 => ?_)
    · refine lv_iconst (v := (-1)) hx hb dX10_asked_19 (by decide) ?_
      exact W.iret (v := (-1)) hx hb hr (fun t ht hW => ⟨_, rfl, rfl, ht⟩) (fun q h => by cases h) dX10_asked_20
    · refine lv_aload_n hx hb dX10_asked_10 rfl (lv_at hl 0 rfl) ?_
      refine va_get (D := D) (ci := 10) (v := .ref la) (C := RX10) (T := TX10) (N := 20) hx hb hg inGX10 hown hK hP 0 rfl rfl 13 (by decide) (hg _ q_2_116) (fun _ h9 => h9) hx_13 dX10_asked_11 ?_
      refine lv_iload_n hx hb dX10_asked_14 rfl (lv_at hl 1 rfl) ?_
      obtain ⟨j_3, hj_3, ej_3⟩ := px_split (x := p0) (n := 7) (by decide) (by simp only [Int32.lt_iff_toInt_lt, Int32.le_iff_toInt_le, ← Int32.toInt_inj] at c_1 c_2; have e0 : (0 : Int32).toInt = 0 := rfl; have e1 : (8 : Int32).toInt = 8 := rfl; omega) (by simp only [Int32.lt_iff_toInt_lt, Int32.le_iff_toInt_le, ← Int32.toInt_inj] at c_1 c_2; have e0 : (0 : Int32).toInt = 0 := rfl; have e1 : (8 : Int32).toInt = 8 := rfl; omega)
      rcases (show j_3 = 0 ∨ j_3 = 1 ∨ j_3 = 2 ∨ j_3 = 3 ∨ j_3 = 4 ∨ j_3 = 5 ∨ j_3 = 6 ∨ j_3 = 7 by omega) with rfl | rfl | rfl | rfl | rfl | rfl | rfl | rfl
      · obtain rfl : p0 = 0 := ej_3
        refine va_iald hx hb hK hP 1 1 rfl rfl (i := 0) (px_in (by decide)) dX10_asked_15 ?_
        refine px_top (v := (-1)) hla_e0 ?_
        refine lv_goto (tgt := 20) hx hb dX10_asked_16 (by decide) ?_
        exact W.iret (v := (-1)) hx hb hr (fun t ht hW => ⟨_, rfl, rfl, ht⟩) (fun q h => by cases h) dX10_asked_20
      · obtain rfl : p0 = 1 := ej_3
        refine va_iald hx hb hK hP 1 1 rfl rfl (i := 1) (px_in (by decide)) dX10_asked_15 ?_
        refine px_top (v := (-1)) hla_e1 ?_
        refine lv_goto (tgt := 20) hx hb dX10_asked_16 (by decide) ?_
        exact W.iret (v := (-1)) hx hb hr (fun t ht hW => ⟨_, rfl, rfl, ht⟩) (fun q h => by cases h) dX10_asked_20
      · obtain rfl : p0 = 2 := ej_3
        refine va_iald hx hb hK hP 1 1 rfl rfl (i := 2) (px_in (by decide)) dX10_asked_15 ?_
        refine px_top (v := (-1)) hla_e2 ?_
        refine lv_goto (tgt := 20) hx hb dX10_asked_16 (by decide) ?_
        exact W.iret (v := (-1)) hx hb hr (fun t ht hW => ⟨_, rfl, rfl, ht⟩) (fun q h => by cases h) dX10_asked_20
      · obtain rfl : p0 = 3 := ej_3
        refine va_iald hx hb hK hP 1 1 rfl rfl (i := 3) (px_in (by decide)) dX10_asked_15 ?_
        refine px_top (v := (-1)) hla_e3 ?_
        refine lv_goto (tgt := 20) hx hb dX10_asked_16 (by decide) ?_
        exact W.iret (v := (-1)) hx hb hr (fun t ht hW => ⟨_, rfl, rfl, ht⟩) (fun q h => by cases h) dX10_asked_20
      · obtain rfl : p0 = 4 := ej_3
        refine va_iald hx hb hK hP 1 1 rfl rfl (i := 4) (px_in (by decide)) dX10_asked_15 ?_
        refine px_top (v := (-1)) hla_e4 ?_
        refine lv_goto (tgt := 20) hx hb dX10_asked_16 (by decide) ?_
        exact W.iret (v := (-1)) hx hb hr (fun t ht hW => ⟨_, rfl, rfl, ht⟩) (fun q h => by cases h) dX10_asked_20
      · obtain rfl : p0 = 5 := ej_3
        refine va_iald hx hb hK hP 1 1 rfl rfl (i := 5) (px_in (by decide)) dX10_asked_15 ?_
        refine px_top (v := (-1)) hla_e5 ?_
        refine lv_goto (tgt := 20) hx hb dX10_asked_16 (by decide) ?_
        exact W.iret (v := (-1)) hx hb hr (fun t ht hW => ⟨_, rfl, rfl, ht⟩) (fun q h => by cases h) dX10_asked_20
      · obtain rfl : p0 = 6 := ej_3
        refine va_iald hx hb hK hP 1 1 rfl rfl (i := 6) (px_in (by decide)) dX10_asked_15 ?_
        refine px_top (v := (-1)) hla_e6 ?_
        refine lv_goto (tgt := 20) hx hb dX10_asked_16 (by decide) ?_
        exact W.iret (v := (-1)) hx hb hr (fun t ht hW => ⟨_, rfl, rfl, ht⟩) (fun q h => by cases h) dX10_asked_20
      · obtain rfl : p0 = 7 := ej_3
        refine va_iald hx hb hK hP 1 1 rfl rfl (i := 7) (px_in (by decide)) dX10_asked_15 ?_
        refine px_top (v := (-1)) hla_e7 ?_
        refine lv_goto (tgt := 20) hx hb dX10_asked_16 (by decide) ?_
        exact W.iret (v := (-1)) hx hb hr (fun t ht hW => ⟨_, rfl, rfl, ht⟩) (fun q h => by cases h) dX10_asked_20

set_option maxHeartbeats 4000000 in
set_option maxRecDepth 100000 in
theorem c_X10_heard (l : Launch) (D : va_G) (y : Nat → ClassId) (sz : Nat) (x : Nat) (fx : List Value) (ve : Nat) (fve : Nat → Int32) (p0 : Int32) (hx_15 : fx[15]? = some (.ref ve)) (hve_e0 : fve 0 = (-1)) (hve_e1 : fve 1 = (-1)) (hve_e2 : fve 2 = (-1)) (hve_e3 : fve 3 = (-1)) : Met l yX10_heard (px_w yX10_heard cX10_heard 2 (some .int)) ({ frames := 0, cells := 0, slots := 0, locals := 0 }) (va_Pc [.ref x, .int p0] (px_P D y sz [(x, .inr (10, fx)), (ve, .inl (y 1, 4, .inl fve))])) (vp_Si (fun r : Int32 => r = (-1))) 0 0 (fun _ => False) := by
  refine Met.ofW (cc := cX10_heard) (maxL := 2) (ret := (some .int)) (by decide) rfl ?_
  intro p e s m args below meth c s₁ B hml hv
  obtain ⟨rfl, hsz, hP, hK, hD0⟩ := hv
  have hx := B.exec
  have hb := B.bytes
  have hr := B.returns
  have hts := atoms_spec (ws := px_w yX10_heard cX10_heard 2 (some .int)) B.pre
  have hg : ∀ w ∈ gw, w.before [.ref x, .int p0].toArray s = true := fun w h => hts w (List.mem_cons_of_mem _ h)
  have hown : s.vm.findClass RX10 = some m.cls := findClass_of_methodNamed B.named
  have hlocks := B.notSynchronized
  subst hsz
  have hD := hD0
  have hP : va_P D vwCl [(x, .inr (10, fx)), (ve, .inl (y 1, 4, .inl fve))] s.heap := hP
  have hl := lv_entry ([.ref x, .int p0]) (n := 2) (Nat.le_of_ble_eq_true rfl)
  rw [lg_entry_eq]
  generalize (lg_sl ([.ref x, .int p0]) ++ List.replicate (2 - (lg_sl ([.ref x, .int p0])).length) Slot.unset).toArray = ls at hl ⊢
  have hl : lv_has ls 2 [(0, .ref x), (1, .int p0)] := hl
  refine lv_iload_n hx hb dX10_heard_0 rfl (lv_at hl 1 rfl) ?_
  refine lv_if_lt (tgt := 22) hx hb dX10_heard_1 (by decide) (fun c_1 => ?_) (fun c_1 => ?_)
  · refine lv_iconst (v := (-1)) hx hb dX10_heard_22 (by decide) ?_
    exact W.iret (v := (-1)) hx hb hr (fun t ht hW => ⟨_, rfl, rfl, ht⟩) (fun q h => by cases h) dX10_heard_23
  · refine lv_iload_n hx hb dX10_heard_4 rfl (lv_at hl 1 rfl) ?_
    refine lv_aload_n hx hb dX10_heard_5 rfl (lv_at hl 0 rfl) ?_
    refine va_get (D := D) (ci := 10) (v := .ref ve) (C := RX10) (T := TX10) (N := 20) hx hb hg inGX10 hown hK hP 0 rfl rfl 15 (by decide) (hg _ q_2_118) (fun _ h9 => h9) hx_15 dX10_heard_6 ?_
    refine va_alen (v := 4) hx hb hK hP 1 1 rfl rfl rfl dX10_heard_9 ?_
    refine lv_icmp_ge (tgt := 22) hx hb dX10_heard_10 (by decide) (fun c_2 => ?_) (fun c_2 => ?_)
    · refine lv_iconst (v := (-1)) hx hb dX10_heard_22 (by decide) ?_
      exact W.iret (v := (-1)) hx hb hr (fun t ht hW => ⟨_, rfl, rfl, ht⟩) (fun q h => by cases h) dX10_heard_23
    · refine lv_aload_n hx hb dX10_heard_13 rfl (lv_at hl 0 rfl) ?_
      refine va_get (D := D) (ci := 10) (v := .ref ve) (C := RX10) (T := TX10) (N := 20) hx hb hg inGX10 hown hK hP 0 rfl rfl 15 (by decide) (hg _ q_2_118) (fun _ h9 => h9) hx_15 dX10_heard_14 ?_
      refine lv_iload_n hx hb dX10_heard_17 rfl (lv_at hl 1 rfl) ?_
      obtain ⟨j_3, hj_3, ej_3⟩ := px_split (x := p0) (n := 3) (by decide) (by simp only [Int32.lt_iff_toInt_lt, Int32.le_iff_toInt_le, ← Int32.toInt_inj] at c_1 c_2; have e0 : (0 : Int32).toInt = 0 := rfl; have e1 : (4 : Int32).toInt = 4 := rfl; omega) (by simp only [Int32.lt_iff_toInt_lt, Int32.le_iff_toInt_le, ← Int32.toInt_inj] at c_1 c_2; have e0 : (0 : Int32).toInt = 0 := rfl; have e1 : (4 : Int32).toInt = 4 := rfl; omega)
      rcases (show j_3 = 0 ∨ j_3 = 1 ∨ j_3 = 2 ∨ j_3 = 3 by omega) with rfl | rfl | rfl | rfl
      · obtain rfl : p0 = 0 := ej_3
        refine va_iald hx hb hK hP 1 1 rfl rfl (i := 0) (px_in (by decide)) dX10_heard_18 ?_
        refine px_top (v := (-1)) hve_e0 ?_
        refine lv_goto (tgt := 23) hx hb dX10_heard_19 (by decide) ?_
        exact W.iret (v := (-1)) hx hb hr (fun t ht hW => ⟨_, rfl, rfl, ht⟩) (fun q h => by cases h) dX10_heard_23
      · obtain rfl : p0 = 1 := ej_3
        refine va_iald hx hb hK hP 1 1 rfl rfl (i := 1) (px_in (by decide)) dX10_heard_18 ?_
        refine px_top (v := (-1)) hve_e1 ?_
        refine lv_goto (tgt := 23) hx hb dX10_heard_19 (by decide) ?_
        exact W.iret (v := (-1)) hx hb hr (fun t ht hW => ⟨_, rfl, rfl, ht⟩) (fun q h => by cases h) dX10_heard_23
      · obtain rfl : p0 = 2 := ej_3
        refine va_iald hx hb hK hP 1 1 rfl rfl (i := 2) (px_in (by decide)) dX10_heard_18 ?_
        refine px_top (v := (-1)) hve_e2 ?_
        refine lv_goto (tgt := 23) hx hb dX10_heard_19 (by decide) ?_
        exact W.iret (v := (-1)) hx hb hr (fun t ht hW => ⟨_, rfl, rfl, ht⟩) (fun q h => by cases h) dX10_heard_23
      · obtain rfl : p0 = 3 := ej_3
        refine va_iald hx hb hK hP 1 1 rfl rfl (i := 3) (px_in (by decide)) dX10_heard_18 ?_
        refine px_top (v := (-1)) hve_e3 ?_
        refine lv_goto (tgt := 23) hx hb dX10_heard_19 (by decide) ?_
        exact W.iret (v := (-1)) hx hb hr (fun t ht hW => ⟨_, rfl, rfl, ht⟩) (fun q h => by cases h) dX10_heard_23

set_option maxHeartbeats 4000000 in
set_option maxRecDepth 100000 in
theorem c_X2_booksOf (l : Launch) (D : va_G) (y : Nat → ClassId) (sz : Nat) (g : Nat) (fg : List Value) (p0 : Int32) (hg_0 : fg[0]? = some (.int 0)) : Met l yX2_booksOf (px_w yX2_booksOf cX2_booksOf 4 (some .int)) ({ frames := 0, cells := 0, slots := 0, locals := 0 }) (va_Pc [.ref g, .int p0] (px_P D y sz [(g, .inr (2, fg))])) (vp_Si (fun r : Int32 => r = 0)) 0 0 (fun _ => False) := by
  refine Met.ofW (cc := cX2_booksOf) (maxL := 4) (ret := (some .int)) (by decide) rfl ?_
  intro p e s m args below meth c s₁ B hml hv
  obtain ⟨rfl, hsz, hP, hK, hD0⟩ := hv
  have hx := B.exec
  have hb := B.bytes
  have hr := B.returns
  have hts := atoms_spec (ws := px_w yX2_booksOf cX2_booksOf 4 (some .int)) B.pre
  have hg : ∀ w ∈ gw, w.before [.ref g, .int p0].toArray s = true := fun w h => hts w (List.mem_cons_of_mem _ h)
  have hown : s.vm.findClass RX2 = some m.cls := findClass_of_methodNamed B.named
  have hlocks := B.notSynchronized
  subst hsz
  have hD := hD0
  have hP : va_P D vwCl [(g, .inr (2, fg))] s.heap := hP
  have hl := lv_entry ([.ref g, .int p0]) (n := 4) (Nat.le_of_ble_eq_true rfl)
  rw [lg_entry_eq]
  generalize (lg_sl ([.ref g, .int p0]) ++ List.replicate (4 - (lg_sl ([.ref g, .int p0])).length) Slot.unset).toArray = ls at hl ⊢
  have hl : lv_has ls 4 [(0, .ref g), (1, .int p0)] := hl
  refine lv_iconst (v := 0) hx hb dX2_booksOf_0 (by decide) ?_
  refine lv_istore_n (lv' := [(2, .int 0), (0, .ref g), (1, .int p0)]) hx hb dX2_booksOf_1 rfl hl (by decide) rfl (fun ls hl => ?_)
  refine lv_iconst (v := 0) hx hb dX2_booksOf_2 (by decide) ?_
  refine lv_istore_n (lv' := [(3, .int 0), (2, .int 0), (0, .ref g), (1, .int p0)]) hx hb dX2_booksOf_3 rfl hl (by decide) rfl (fun ls hl => ?_)
  refine lv_iload_n hx hb dX2_booksOf_4 rfl (lv_at hl 0 rfl) ?_
  refine lv_aload_n hx hb dX2_booksOf_5 rfl (lv_at hl 2 rfl) ?_
  refine va_get (D := D) (ci := 2) (v := .int 0) (C := RX2) (T := TX2) (N := 18) hx hb hg inGX2 hown hK hP 0 rfl rfl 0 (by decide) (hg _ q_1_64) (fun _ h9 => h9) hg_0 dX2_booksOf_6 ?_
  refine lv_icmp_ge (tgt := 31) hx hb dX2_booksOf_9 (by decide) (fun _ => ?_) (fun c_1 => absurd c_1 (by decide))
  refine lv_iload_n hx hb dX2_booksOf_31 rfl (lv_at hl 1 rfl) ?_
  exact W.iret (v := 0) hx hb hr (fun t ht hW => ⟨_, rfl, rfl, ht⟩) (fun q h => by cases h) dX2_booksOf_32

set_option maxHeartbeats 4000000 in
set_option maxRecDepth 100000 in
theorem c_X2_allBooks (l : Launch) (D : va_G) (y : Nat → ClassId) (sz : Nat) (g : Nat) (fg : List Value) (hg_0 : fg[0]? = some (.int 0)) : Met l yX2_allBooks (px_w yX2_allBooks cX2_allBooks 1 (some .int)) ({ frames := 1, cells := 0, slots := 0, locals := 23 }) (va_Pc [.ref g] (px_P D y sz [(g, .inr (2, fg))])) (vp_Si (fun r : Int32 => r = 0)) 0 0 (fun _ => False) := by
  refine Met.ofW (cc := cX2_allBooks) (maxL := 1) (ret := (some .int)) (by decide) rfl ?_
  intro p e s m args below meth c s₁ B hml hv
  obtain ⟨rfl, hsz, hP, hK, hD0⟩ := hv
  have hx := B.exec
  have hb := B.bytes
  have hr := B.returns
  have hts := atoms_spec (ws := px_w yX2_allBooks cX2_allBooks 1 (some .int)) B.pre
  have hg : ∀ w ∈ gw, w.before [.ref g].toArray s = true := fun w h => hts w (List.mem_cons_of_mem _ h)
  have hown : s.vm.findClass RX2 = some m.cls := findClass_of_methodNamed B.named
  have hlocks := B.notSynchronized
  subst hsz
  have hD := hD0
  have hP : va_P D vwCl [(g, .inr (2, fg))] s.heap := hP
  have hl := lv_entry ([.ref g]) (n := 1) (Nat.le_of_ble_eq_true rfl)
  rw [lg_entry_eq]
  generalize (lg_sl ([.ref g]) ++ List.replicate (1 - (lg_sl ([.ref g])).length) Slot.unset).toArray = ls at hl ⊢
  have hl : lv_has ls 1 [(0, .ref g)] := hl
  refine lv_aload_n hx hb dX2_allBooks_0 rfl (lv_at hl 0 rfl) ?_
  refine va_get (D := D) (ci := 2) (v := .int 0) (C := RX2) (T := TX2) (N := 18) hx hb hg inGX2 hown hK hP 0 rfl rfl 0 (by decide) (hg _ q_1_64) (fun _ h9 => h9) hg_0 dX2_allBooks_1 ?_
  refine lv_aload_n hx hb dX2_allBooks_4 rfl (lv_at hl 0 rfl) ?_
  refine lv_iconst (v := (-1)) hx hb dX2_allBooks_5 (by decide) ?_
  have hPc_1 := hP.sub (ws' := [(g, .inr (2, fg))]) [0] rfl
  have hDc_1 := hD.sub (ws' := [(g, .inr (2, fg))]) [0] (by decide) rfl
  refine vp_callSi (va_Run.run (va_runV (As := [.int (-1)]) (rest := [.int 0]) ⟨hx, hb, hml, hown, hg⟩ (c_X2_booksOf l D y s.heap.size g fg (-1) hg_0) (cwV 1 hg (px_gV q_3_155 q_3_120 q_3_121 q_1_2 q_3_122) rfl rfl rfl (by decide +kernel) ⟨Nat.le_of_ble_eq_true rfl, Nat.le_of_ble_eq_true rfl⟩) (px_preV hK hPc_1 hDc_1 (ci := 2) (q0 := 0) rfl rfl) rfl rfl hl.1 rfl (lv_room (Nat.le_of_ble_eq_true rfl)) dX2_allBooks_6 ⟨Nat.le_of_ble_eq_true rfl, Nat.le_of_ble_eq_true rfl⟩)) (fun r_1 hw_1 => ?_)
  obtain rfl : r_1 = 0 := hw_1
  refine lv_isub hx hb dX2_allBooks_9 ?_
  refine px_top (v := 0) (by decide) ?_
  exact W.iret (v := 0) hx hb hr (fun t ht hW => ⟨_, rfl, rfl, ht⟩) (fun q h => by cases h) dX2_allBooks_10

set_option maxHeartbeats 4000000 in
set_option maxRecDepth 100000 in
theorem c_X2_loose (l : Launch) (D : va_G) (y : Nat → ClassId) (sz : Nat) (g : Nat) (fg : List Value) (hg_1 : fg[1]? = some (.int 0)) (hg_8 : fg[8]? = some (.int 0)) (hg_9 : fg[9]? = some (.int 0)) : Met l yX2_loose (px_w yX2_loose cX2_loose 3 (some .int)) ({ frames := 1, cells := 0, slots := 0, locals := 20 }) (va_Pc [.ref g] (px_P D y sz [(g, .inr (2, fg))])) (vp_Si (fun r : Int32 => r = 0)) 0 0 (fun _ => False) := by
  refine Met.ofW (cc := cX2_loose) (maxL := 3) (ret := (some .int)) (by decide) rfl ?_
  intro p e s m args below meth c s₁ B hml hv
  obtain ⟨rfl, hsz, hP, hK, hD0⟩ := hv
  have hx := B.exec
  have hb := B.bytes
  have hr := B.returns
  have hts := atoms_spec (ws := px_w yX2_loose cX2_loose 3 (some .int)) B.pre
  have hg : ∀ w ∈ gw, w.before [.ref g].toArray s = true := fun w h => hts w (List.mem_cons_of_mem _ h)
  have hown : s.vm.findClass RX2 = some m.cls := findClass_of_methodNamed B.named
  have hlocks := B.notSynchronized
  subst hsz
  have hD := hD0
  have hP : va_P D vwCl [(g, .inr (2, fg))] s.heap := hP
  have hl := lv_entry ([.ref g]) (n := 3) (Nat.le_of_ble_eq_true rfl)
  rw [lg_entry_eq]
  generalize (lg_sl ([.ref g]) ++ List.replicate (3 - (lg_sl ([.ref g])).length) Slot.unset).toArray = ls at hl ⊢
  have hl : lv_has ls 3 [(0, .ref g)] := hl
  refine lv_aload_n hx hb dX2_loose_0 rfl (lv_at hl 0 rfl) ?_
  have hPc_1 := hP.sub (ws' := [(g, .inr (2, fg))]) [0] rfl
  have hDc_1 := hD.sub (ws' := [(g, .inr (2, fg))]) [0] (by decide) rfl
  refine vp_callSi (va_Run.run (va_runV (As := []) (rest := []) ⟨hx, hb, hml, hown, hg⟩ (c_X2_heapSize l D y s.heap.size g fg hg_8 hg_9) (cwV 0 hg (px_gV q_3_160 q_3_144 q_3_145 q_1_2 q_3_146) rfl rfl rfl (by decide +kernel) ⟨Nat.le_of_ble_eq_true rfl, Nat.le_of_ble_eq_true rfl⟩) (px_preV hK hPc_1 hDc_1 (ci := 2) (q0 := 0) rfl rfl) rfl rfl hl.1 rfl (lv_room (Nat.le_of_ble_eq_true rfl)) dX2_loose_1 ⟨Nat.le_of_ble_eq_true rfl, Nat.le_of_ble_eq_true rfl⟩)) (fun r_1 hw_1 => ?_)
  obtain rfl : r_1 = 0 := hw_1
  refine lv_istore_n (lv' := [(1, .int 0), (0, .ref g)]) hx hb dX2_loose_4 rfl hl (by decide) rfl (fun ls hl => ?_)
  refine lv_iconst (v := 0) hx hb dX2_loose_5 (by decide) ?_
  refine lv_istore_n (lv' := [(2, .int 0), (1, .int 0), (0, .ref g)]) hx hb dX2_loose_6 rfl hl (by decide) rfl (fun ls hl => ?_)
  refine lv_iload_n hx hb dX2_loose_7 rfl (lv_at hl 0 rfl) ?_
  refine lv_aload_n hx hb dX2_loose_8 rfl (lv_at hl 2 rfl) ?_
  refine va_get (D := D) (ci := 2) (v := .int 0) (C := RX2) (T := TX2) (N := 18) hx hb hg inGX2 hown hK hP 0 rfl rfl 1 (by decide) (hg _ q_1_70) (fun _ h9 => h9) hg_1 dX2_loose_9 ?_
  refine lv_icmp_ge (tgt := 30) hx hb dX2_loose_12 (by decide) (fun _ => ?_) (fun c_2 => absurd c_2 (by decide))
  refine lv_iload_n hx hb dX2_loose_30 rfl (lv_at hl 1 rfl) ?_
  exact W.iret (v := 0) hx hb hr (fun t ht hW => ⟨_, rfl, rfl, ht⟩) (fun q h => by cases h) dX2_loose_31

set_option maxHeartbeats 4000000 in
set_option maxRecDepth 100000 in
theorem c_X10_now (l : Launch) (D : va_G) (y : Nat → ClassId) (sz : Nat) (x : Nat) (fx : List Value) (g : Nat) (fg : List Value) (p0 : Int32) (hx_3 : fx[3]? = some (.ref g)) (hg_0 : fg[0]? = some (.int 0)) (hg_1 : fg[1]? = some (.int 0)) (hg_8 : fg[8]? = some (.int 0)) (hg_9 : fg[9]? = some (.int 0)) (hg_14 : fg[14]? = some (.int (-1))) (hg_15 : fg[15]? = some (.int 0)) (hg_16 : fg[16]? = some (.int 0)) : Met l yX10_now (px_w yX10_now cX10_now 2 (some .int)) ({ frames := 2, cells := 0, slots := 0, locals := 43 }) (va_Pc [.ref x, .int p0] (px_P D y sz [(x, .inr (10, fx)), (g, .inr (2, fg))])) (vp_Si (fun r : Int32 => r = px_now p0)) 0 0 (fun _ => False) := by
  refine Met.ofW (cc := cX10_now) (maxL := 2) (ret := (some .int)) (by decide) rfl ?_
  intro p e s m args below meth c s₁ B hml hv
  obtain ⟨rfl, hsz, hP, hK, hD0⟩ := hv
  have hx := B.exec
  have hb := B.bytes
  have hr := B.returns
  have hts := atoms_spec (ws := px_w yX10_now cX10_now 2 (some .int)) B.pre
  have hg : ∀ w ∈ gw, w.before [.ref x, .int p0].toArray s = true := fun w h => hts w (List.mem_cons_of_mem _ h)
  have hown : s.vm.findClass RX10 = some m.cls := findClass_of_methodNamed B.named
  have hlocks := B.notSynchronized
  subst hsz
  have hD := hD0
  have hP : va_P D vwCl [(x, .inr (10, fx)), (g, .inr (2, fg))] s.heap := hP
  have hl := lv_entry ([.ref x, .int p0]) (n := 2) (Nat.le_of_ble_eq_true rfl)
  rw [lg_entry_eq]
  generalize (lg_sl ([.ref x, .int p0]) ++ List.replicate (2 - (lg_sl ([.ref x, .int p0])).length) Slot.unset).toArray = ls at hl ⊢
  have hl : lv_has ls 2 [(0, .ref x), (1, .int p0)] := hl
  refine lv_iload_n hx hb dX10_now_0 rfl (lv_at hl 1 rfl) ?_
  rcases pk_ix p0 (n := 6) (by decide) with h_1 | h_1 | ⟨j_h_1, hh_1, h_1⟩
  · refine lv_tableOut (tgt := 88) hx hb dX10_now_1 (Or.inl (Int32.lt_iff_toInt_lt.mp h_1)) (by decide) ?_
    refine lv_iconst (v := (-1)) hx hb dX10_now_88 (by decide) ?_
    exact W.iret (v := (-1)) hx hb hr (fun t ht hW => ⟨_, rfl, (by show _ = px_now p0; unfold px_now; simp only [Int32.lt_iff_toInt_lt, Int32.le_iff_toInt_le, ← Int32.toInt_inj] at h_1; have e0 : (0 : Int32).toInt = 0 := rfl; first | (rw [if_pos (by omega)]; done) | (rw [if_neg (by omega)]; done)), ht⟩) (fun q h => by cases h) dX10_now_89
  · refine lv_tableOut (tgt := 88) hx hb dX10_now_1 (Or.inr (Int.lt_of_lt_of_le (by decide : (5 : Int) < (nI 6).toInt) (Int32.le_iff_toInt_le.mp h_1))) (by decide) ?_
    have h_1 : (6 : Int32) ≤ p0 := h_1
    refine lv_iconst (v := (-1)) hx hb dX10_now_88 (by decide) ?_
    exact W.iret (v := (-1)) hx hb hr (fun t ht hW => ⟨_, rfl, (by show _ = px_now p0; unfold px_now; simp only [Int32.lt_iff_toInt_lt, Int32.le_iff_toInt_le, ← Int32.toInt_inj] at h_1; have e0 : (6 : Int32).toInt = 6 := rfl; first | (rw [if_pos (by omega)]; done) | (rw [if_neg (by omega)]; done)), ht⟩) (fun q h => by cases h) dX10_now_89
  · rcases (show j_h_1 = 0 ∨ j_h_1 = 1 ∨ j_h_1 = 2 ∨ j_h_1 = 3 ∨ j_h_1 = 4 ∨ j_h_1 = 5 by omega) with rfl | rfl | rfl | rfl | rfl | rfl
    · obtain rfl : p0 = 0 := h_1
      refine lv_tableIn (off := 39) (tgt := 40) hx hb dX10_now_1 (by decide) (by decide) (by decide) (by decide) ?_
      refine lv_aload_n hx hb dX10_now_40 rfl (lv_at hl 0 rfl) ?_
      refine va_get (D := D) (ci := 10) (v := .ref g) (C := RX10) (T := TX10) (N := 20) hx hb hg inGX10 hown hK hP 0 rfl rfl 3 (by decide) (hg _ q_2_106) (fun _ h9 => h9) hx_3 dX10_now_41 ?_
      refine va_get (D := D) (ci := 2) (v := .int (-1)) (C := RX2) (T := TX2) (N := 18) hx hb hg inGX2 hown hK hP 1 rfl rfl 14 (by decide) (hg _ q_1_104) (fun _ h9 => h9) hg_14 dX10_now_44 ?_
      exact W.iret (v := (-1)) hx hb hr (fun t ht hW => ⟨_, rfl, (by decide), ht⟩) (fun q h => by cases h) dX10_now_47
    · obtain rfl : p0 = 1 := h_1
      refine lv_tableIn (off := 47) (tgt := 48) hx hb dX10_now_1 (by decide) (by decide) (by decide) (by decide) ?_
      refine lv_aload_n hx hb dX10_now_48 rfl (lv_at hl 0 rfl) ?_
      refine va_get (D := D) (ci := 10) (v := .ref g) (C := RX10) (T := TX10) (N := 20) hx hb hg inGX10 hown hK hP 0 rfl rfl 3 (by decide) (hg _ q_2_106) (fun _ h9 => h9) hx_3 dX10_now_49 ?_
      have hPc_2 := hP.sub (ws' := [(g, .inr (2, fg))]) [1] rfl
      have hDc_2 := hD.sub (ws' := [(g, .inr (2, fg))]) [1] (by decide) rfl
      refine vp_callSi (va_Run.run (va_runV (As := []) (rest := []) ⟨hx, hb, hml, hown, hg⟩ (c_X2_heapSize l D y s.heap.size g fg hg_8 hg_9) (cwV 0 hg (px_gV q_3_143 q_3_144 q_3_145 q_1_2 q_3_146) rfl rfl rfl (by decide +kernel) ⟨Nat.le_of_ble_eq_true rfl, Nat.le_of_ble_eq_true rfl⟩) (px_preV hK hPc_2 hDc_2 (ci := 2) (q0 := 0) rfl rfl) rfl rfl hl.1 rfl (lv_room (Nat.le_of_ble_eq_true rfl)) dX10_now_52 ⟨Nat.le_of_ble_eq_true rfl, Nat.le_of_ble_eq_true rfl⟩)) (fun r_2 hw_2 => ?_)
      obtain rfl : r_2 = 0 := hw_2
      exact W.iret (v := 0) hx hb hr (fun t ht hW => ⟨_, rfl, (by decide), ht⟩) (fun q h => by cases h) dX10_now_55
    · obtain rfl : p0 = 2 := h_1
      refine lv_tableIn (off := 55) (tgt := 56) hx hb dX10_now_1 (by decide) (by decide) (by decide) (by decide) ?_
      refine lv_aload_n hx hb dX10_now_56 rfl (lv_at hl 0 rfl) ?_
      refine va_get (D := D) (ci := 10) (v := .ref g) (C := RX10) (T := TX10) (N := 20) hx hb hg inGX10 hown hK hP 0 rfl rfl 3 (by decide) (hg _ q_2_106) (fun _ h9 => h9) hx_3 dX10_now_57 ?_
      refine va_get (D := D) (ci := 2) (v := .int 0) (C := RX2) (T := TX2) (N := 18) hx hb hg inGX2 hown hK hP 1 rfl rfl 15 (by decide) (hg _ q_1_106) (fun _ h9 => h9) hg_15 dX10_now_60 ?_
      exact W.iret (v := 0) hx hb hr (fun t ht hW => ⟨_, rfl, (by decide), ht⟩) (fun q h => by cases h) dX10_now_63
    · obtain rfl : p0 = 3 := h_1
      refine lv_tableIn (off := 63) (tgt := 64) hx hb dX10_now_1 (by decide) (by decide) (by decide) (by decide) ?_
      refine lv_aload_n hx hb dX10_now_64 rfl (lv_at hl 0 rfl) ?_
      refine va_get (D := D) (ci := 10) (v := .ref g) (C := RX10) (T := TX10) (N := 20) hx hb hg inGX10 hown hK hP 0 rfl rfl 3 (by decide) (hg _ q_2_106) (fun _ h9 => h9) hx_3 dX10_now_65 ?_
      have hPc_3 := hP.sub (ws' := [(g, .inr (2, fg))]) [1] rfl
      have hDc_3 := hD.sub (ws' := [(g, .inr (2, fg))]) [1] (by decide) rfl
      refine vp_callSi (va_Run.run (va_runV (As := []) (rest := []) ⟨hx, hb, hml, hown, hg⟩ (c_X2_allBooks l D y s.heap.size g fg hg_0) (cwV 0 hg (px_gV q_3_151 q_3_152 q_3_153 q_1_2 q_3_154) rfl rfl rfl (by decide +kernel) ⟨Nat.le_of_ble_eq_true rfl, Nat.le_of_ble_eq_true rfl⟩) (px_preV hK hPc_3 hDc_3 (ci := 2) (q0 := 0) rfl rfl) rfl rfl hl.1 rfl (lv_room (Nat.le_of_ble_eq_true rfl)) dX10_now_68 ⟨Nat.le_of_ble_eq_true rfl, Nat.le_of_ble_eq_true rfl⟩)) (fun r_3 hw_3 => ?_)
      obtain rfl : r_3 = 0 := hw_3
      exact W.iret (v := 0) hx hb hr (fun t ht hW => ⟨_, rfl, (by decide), ht⟩) (fun q h => by cases h) dX10_now_71
    · obtain rfl : p0 = 4 := h_1
      refine lv_tableIn (off := 71) (tgt := 72) hx hb dX10_now_1 (by decide) (by decide) (by decide) (by decide) ?_
      refine lv_aload_n hx hb dX10_now_72 rfl (lv_at hl 0 rfl) ?_
      refine va_get (D := D) (ci := 10) (v := .ref g) (C := RX10) (T := TX10) (N := 20) hx hb hg inGX10 hown hK hP 0 rfl rfl 3 (by decide) (hg _ q_2_106) (fun _ h9 => h9) hx_3 dX10_now_73 ?_
      refine va_get (D := D) (ci := 2) (v := .int 0) (C := RX2) (T := TX2) (N := 18) hx hb hg inGX2 hown hK hP 1 rfl rfl 16 (by decide) (hg _ q_1_109) (fun _ h9 => h9) hg_16 dX10_now_76 ?_
      exact W.iret (v := 0) hx hb hr (fun t ht hW => ⟨_, rfl, (by decide), ht⟩) (fun q h => by cases h) dX10_now_79
    · obtain rfl : p0 = 5 := h_1
      refine lv_tableIn (off := 79) (tgt := 80) hx hb dX10_now_1 (by decide) (by decide) (by decide) (by decide) ?_
      refine lv_aload_n hx hb dX10_now_80 rfl (lv_at hl 0 rfl) ?_
      refine va_get (D := D) (ci := 10) (v := .ref g) (C := RX10) (T := TX10) (N := 20) hx hb hg inGX10 hown hK hP 0 rfl rfl 3 (by decide) (hg _ q_2_106) (fun _ h9 => h9) hx_3 dX10_now_81 ?_
      have hPc_4 := hP.sub (ws' := [(g, .inr (2, fg))]) [1] rfl
      have hDc_4 := hD.sub (ws' := [(g, .inr (2, fg))]) [1] (by decide) rfl
      refine vp_callSi (va_Run.run (va_runV (As := []) (rest := []) ⟨hx, hb, hml, hown, hg⟩ (c_X2_loose l D y s.heap.size g fg hg_1 hg_8 hg_9) (cwV 0 hg (px_gV q_3_156 q_3_157 q_3_158 q_1_2 q_3_159) rfl rfl rfl (by decide +kernel) ⟨Nat.le_of_ble_eq_true rfl, Nat.le_of_ble_eq_true rfl⟩) (px_preV hK hPc_4 hDc_4 (ci := 2) (q0 := 0) rfl rfl) rfl rfl hl.1 rfl (lv_room (Nat.le_of_ble_eq_true rfl)) dX10_now_84 ⟨Nat.le_of_ble_eq_true rfl, Nat.le_of_ble_eq_true rfl⟩)) (fun r_4 hw_4 => ?_)
      obtain rfl : r_4 = 0 := hw_4
      exact W.iret (v := 0) hx hb hr (fun t ht hW => ⟨_, rfl, (by decide), ht⟩) (fun q h => by cases h) dX10_now_87

set_option maxHeartbeats 4000000 in
set_option maxRecDepth 100000 in
theorem c_X10_count (l : Launch) (D : va_G) (y : Nat → ClassId) (sz : Nat) (x : Nat) (fx : List Value) (g : Nat) (fg : List Value) (p0 : Int32) (hx_1 : fx[1]? = some (.int 0)) (hx_3 : fx[3]? = some (.ref g)) (hg_0 : fg[0]? = some (.int 0)) (hg_1 : fg[1]? = some (.int 0)) (hg_2 : fg[2]? = some (.int 0)) (hg_3 : fg[3]? = some (.int 0)) : Met l yX10_count (px_w yX10_count cX10_count 2 (some .int)) ({ frames := 0, cells := 0, slots := 0, locals := 0 }) (va_Pc [.ref x, .int p0] (px_P D y sz [(x, .inr (10, fx)), (g, .inr (2, fg))])) (vp_Si (fun r : Int32 => r = px_cnt p0)) 0 0 (fun _ => False) := by
  refine Met.ofW (cc := cX10_count) (maxL := 2) (ret := (some .int)) (by decide) rfl ?_
  intro p e s m args below meth c s₁ B hml hv
  obtain ⟨rfl, hsz, hP, hK, hD0⟩ := hv
  have hx := B.exec
  have hb := B.bytes
  have hr := B.returns
  have hts := atoms_spec (ws := px_w yX10_count cX10_count 2 (some .int)) B.pre
  have hg : ∀ w ∈ gw, w.before [.ref x, .int p0].toArray s = true := fun w h => hts w (List.mem_cons_of_mem _ h)
  have hown : s.vm.findClass RX10 = some m.cls := findClass_of_methodNamed B.named
  have hlocks := B.notSynchronized
  subst hsz
  have hD := hD0
  have hP : va_P D vwCl [(x, .inr (10, fx)), (g, .inr (2, fg))] s.heap := hP
  have hl := lv_entry ([.ref x, .int p0]) (n := 2) (Nat.le_of_ble_eq_true rfl)
  rw [lg_entry_eq]
  generalize (lg_sl ([.ref x, .int p0]) ++ List.replicate (2 - (lg_sl ([.ref x, .int p0])).length) Slot.unset).toArray = ls at hl ⊢
  have hl : lv_has ls 2 [(0, .ref x), (1, .int p0)] := hl
  refine lv_iload_n hx hb dX10_count_0 rfl (lv_at hl 1 rfl) ?_
  rcases pk_ix p0 (n := 5) (by decide) with h_1 | h_1 | ⟨j_h_1, hh_1, h_1⟩
  · refine lv_tableOut (tgt := 81) hx hb dX10_count_1 (Or.inl (Int32.lt_iff_toInt_lt.mp h_1)) (by decide) ?_
    refine lv_iconst (v := (-1)) hx hb dX10_count_81 (by decide) ?_
    exact W.iret (v := (-1)) hx hb hr (fun t ht hW => ⟨_, rfl, (by show _ = px_cnt p0; unfold px_cnt; simp only [Int32.lt_iff_toInt_lt, Int32.le_iff_toInt_le, ← Int32.toInt_inj] at h_1; have e0 : (0 : Int32).toInt = 0 := rfl; first | (rw [if_pos (by omega)]; done) | (rw [if_neg (by omega)]; done)), ht⟩) (fun q h => by cases h) dX10_count_82
  · refine lv_tableOut (tgt := 81) hx hb dX10_count_1 (Or.inr (Int.lt_of_lt_of_le (by decide : (4 : Int) < (nI 5).toInt) (Int32.le_iff_toInt_le.mp h_1))) (by decide) ?_
    have h_1 : (5 : Int32) ≤ p0 := h_1
    refine lv_iconst (v := (-1)) hx hb dX10_count_81 (by decide) ?_
    exact W.iret (v := (-1)) hx hb hr (fun t ht hW => ⟨_, rfl, (by show _ = px_cnt p0; unfold px_cnt; simp only [Int32.lt_iff_toInt_lt, Int32.le_iff_toInt_le, ← Int32.toInt_inj] at h_1; have e0 : (5 : Int32).toInt = 5 := rfl; first | (rw [if_pos (by omega)]; done) | (rw [if_neg (by omega)]; done)), ht⟩) (fun q h => by cases h) dX10_count_82
  · rcases (show j_h_1 = 0 ∨ j_h_1 = 1 ∨ j_h_1 = 2 ∨ j_h_1 = 3 ∨ j_h_1 = 4 by omega) with rfl | rfl | rfl | rfl | rfl
    · obtain rfl : p0 = 0 := h_1
      refine lv_tableIn (off := 35) (tgt := 36) hx hb dX10_count_1 (by decide) (by decide) (by decide) (by decide) ?_
      refine lv_aload_n hx hb dX10_count_36 rfl (lv_at hl 0 rfl) ?_
      refine va_get (D := D) (ci := 10) (v := .ref g) (C := RX10) (T := TX10) (N := 20) hx hb hg inGX10 hown hK hP 0 rfl rfl 3 (by decide) (hg _ q_2_106) (fun _ h9 => h9) hx_3 dX10_count_37 ?_
      refine va_get (D := D) (ci := 2) (v := .int 0) (C := RX2) (T := TX2) (N := 18) hx hb hg inGX2 hown hK hP 1 rfl rfl 0 (by decide) (hg _ q_1_69) (fun _ h9 => h9) hg_0 dX10_count_40 ?_
      exact W.iret (v := 0) hx hb hr (fun t ht hW => ⟨_, rfl, (by decide), ht⟩) (fun q h => by cases h) dX10_count_43
    · obtain rfl : p0 = 1 := h_1
      refine lv_tableIn (off := 43) (tgt := 44) hx hb dX10_count_1 (by decide) (by decide) (by decide) (by decide) ?_
      refine lv_aload_n hx hb dX10_count_44 rfl (lv_at hl 0 rfl) ?_
      refine va_get (D := D) (ci := 10) (v := .ref g) (C := RX10) (T := TX10) (N := 20) hx hb hg inGX10 hown hK hP 0 rfl rfl 3 (by decide) (hg _ q_2_106) (fun _ h9 => h9) hx_3 dX10_count_45 ?_
      refine va_get (D := D) (ci := 2) (v := .int 0) (C := RX2) (T := TX2) (N := 18) hx hb hg inGX2 hown hK hP 1 rfl rfl 1 (by decide) (hg _ q_1_73) (fun _ h9 => h9) hg_1 dX10_count_48 ?_
      exact W.iret (v := 0) hx hb hr (fun t ht hW => ⟨_, rfl, (by decide), ht⟩) (fun q h => by cases h) dX10_count_51
    · obtain rfl : p0 = 2 := h_1
      refine lv_tableIn (off := 51) (tgt := 52) hx hb dX10_count_1 (by decide) (by decide) (by decide) (by decide) ?_
      refine lv_aload_n hx hb dX10_count_52 rfl (lv_at hl 0 rfl) ?_
      refine va_get (D := D) (ci := 10) (v := .ref g) (C := RX10) (T := TX10) (N := 20) hx hb hg inGX10 hown hK hP 0 rfl rfl 3 (by decide) (hg _ q_2_106) (fun _ h9 => h9) hx_3 dX10_count_53 ?_
      refine va_get (D := D) (ci := 2) (v := .int 0) (C := RX2) (T := TX2) (N := 18) hx hb hg inGX2 hown hK hP 1 rfl rfl 2 (by decide) (hg _ q_1_77) (fun _ h9 => h9) hg_2 dX10_count_56 ?_
      refine lv_if_eq (tgt := 66) hx hb dX10_count_59 (by decide) (fun _ => ?_) (fun c_2 => absurd c_2 (by decide))
      refine lv_iconst (v := 0) hx hb dX10_count_66 (by decide) ?_
      exact W.iret (v := 0) hx hb hr (fun t ht hW => ⟨_, rfl, (by decide), ht⟩) (fun q h => by cases h) dX10_count_67
    · obtain rfl : p0 = 3 := h_1
      refine lv_tableIn (off := 67) (tgt := 68) hx hb dX10_count_1 (by decide) (by decide) (by decide) (by decide) ?_
      refine lv_aload_n hx hb dX10_count_68 rfl (lv_at hl 0 rfl) ?_
      refine va_get (D := D) (ci := 10) (v := .ref g) (C := RX10) (T := TX10) (N := 20) hx hb hg inGX10 hown hK hP 0 rfl rfl 3 (by decide) (hg _ q_2_106) (fun _ h9 => h9) hx_3 dX10_count_69 ?_
      refine va_get (D := D) (ci := 2) (v := .int 0) (C := RX2) (T := TX2) (N := 18) hx hb hg inGX2 hown hK hP 1 rfl rfl 3 (by decide) (hg _ q_1_81) (fun _ h9 => h9) hg_3 dX10_count_72 ?_
      exact W.iret (v := 0) hx hb hr (fun t ht hW => ⟨_, rfl, (by decide), ht⟩) (fun q h => by cases h) dX10_count_75
    · obtain rfl : p0 = 4 := h_1
      refine lv_tableIn (off := 75) (tgt := 76) hx hb dX10_count_1 (by decide) (by decide) (by decide) (by decide) ?_
      refine lv_aload_n hx hb dX10_count_76 rfl (lv_at hl 0 rfl) ?_
      refine va_get (D := D) (ci := 10) (v := .int 0) (C := RX10) (T := TX10) (N := 20) hx hb hg inGX10 hown hK hP 0 rfl rfl 1 (by decide) (hg _ q_2_104) (fun _ h9 => h9) hx_1 dX10_count_77 ?_
      exact W.iret (v := 0) hx hb hr (fun t ht hW => ⟨_, rfl, (by decide), ht⟩) (fun q h => by cases h) dX10_count_80

set_option maxHeartbeats 4000000 in
set_option maxRecDepth 100000 in
theorem c_X10_end (l : Launch) (D : va_G) (y : Nat → ClassId) (sz : Nat) (x : Nat) (fx : List Value) (p0 : Int32) (hx_1 : fx[1]? = some (.int 0)) : Met l yX10_end (px_w yX10_end cX10_end 2 (some .boolean)) ({ frames := 0, cells := 0, slots := 0, locals := 0 }) (va_Pc [.ref x, .int p0] (px_P D y sz [(x, .inr (10, fx))])) (va_Qi (fun (r : Int32) (u : Unit) => r = px_is0 p0) (fun (u : Unit) t => True) (va_A [(x, .inr (10, fx))] sz)) 0 0 (va_A [(x, .inr (10, fx))] sz) := by
  refine Met.ofW (cc := cX10_end) (maxL := 2) (ret := (some .boolean)) (by decide) rfl ?_
  intro p e s m args below meth c s₁ B hml hv
  obtain ⟨rfl, hsz, hP, hK, hD0⟩ := hv
  have hx := B.exec
  have hb := B.bytes
  have hr := B.returns
  have hts := atoms_spec (ws := px_w yX10_end cX10_end 2 (some .boolean)) B.pre
  have hg : ∀ w ∈ gw, w.before [.ref x, .int p0].toArray s = true := fun w h => hts w (List.mem_cons_of_mem _ h)
  have hown : s.vm.findClass RX10 = some m.cls := findClass_of_methodNamed B.named
  have hlocks := B.notSynchronized
  subst hsz
  have hD := hD0.self (sz := s.heap.size)
  generalize hAe : va_A [(x, .inr (10, fx))] s.heap.size = A at hD ⊢
  have hA : ∀ q : Nat, s.heap.size ≤ q → A q := fun q h => by rw [← hAe]; exact Or.inr h
  have hS : va_S A s.heap s.heap [] := va_S.rf
  have hP : va_P D vwCl [(x, .inr (10, fx))] s.heap := hP
  have hl := lv_entry ([.ref x, .int p0]) (n := 2) (Nat.le_of_ble_eq_true rfl)
  rw [lg_entry_eq]
  generalize (lg_sl ([.ref x, .int p0]) ++ List.replicate (2 - (lg_sl ([.ref x, .int p0])).length) Slot.unset).toArray = ls at hl ⊢
  have hl : lv_has ls 2 [(0, .ref x), (1, .int p0)] := hl
  refine lv_iload_n hx hb dX10_end_0 rfl (lv_at hl 1 rfl) ?_
  refine lv_if_lt (tgt := 12) hx hb dX10_end_1 (by decide) (fun c_1 => ?_) (fun c_1 => ?_)
  · refine lv_iconst (v := 0) hx hb dX10_end_12 (by decide) ?_
    exact W.zret (v := 0) hx hb hr (by decide) (fun t ht hW => ⟨⟨_, (), rfl, (by show _ = px_is0 p0; unfold px_is0; simp only [Int32.lt_iff_toInt_lt, Int32.le_iff_toInt_le, ← Int32.toInt_inj] at c_1; have e0 : (0 : Int32).toInt = 0 := rfl; first | (rw [if_pos (by omega)]; done) | (rw [if_neg (by omega)]; done)), trivial⟩, by subst hAe; exact hS.F ht⟩) (fun q h => by subst hAe; exact hS.2.2 q h) dX10_end_13
  · refine lv_iload_n hx hb dX10_end_4 rfl (lv_at hl 1 rfl) ?_
    refine lv_aload_n hx hb dX10_end_5 rfl (lv_at hl 0 rfl) ?_
    refine va_get (D := D) (ci := 10) (v := .int 0) (C := RX10) (T := TX10) (N := 20) hx hb hg inGX10 hown hK hP 0 rfl rfl 1 (by decide) (hg _ q_2_104) (fun _ h9 => h9) hx_1 dX10_end_6 ?_
    refine lv_icmp_le (tgt := 14) hx hb dX10_end_9 (by decide) (fun c_2 => ?_) (fun c_2 => ?_)
    · refine lv_aload_n hx hb dX10_end_14 rfl (lv_at hl 0 rfl) ?_
      refine lv_iload_n hx hb dX10_end_15 rfl (lv_at hl 1 rfl) ?_
      refine va_put (D := D) (ci := 10) (v := .int p0) (ty := .int) (C := RX10) (T := TX10) (N := 20) hx hb hg inGX10 tyX10 tyX10_ok nmX10 hown hK hP hD hS 0 rfl rfl 1 (by decide) (hg _ q_2_104) (fun _ h9 => h9) rfl (by decide +kernel) rfl rfl (px_len hx_1) dX10_end_16 (fun H locs hP hD hS => ?_)
      have hP : va_P D vwCl [(x, .inr (10, (fx.set 1 (.int p0))))] H := hP
      have hD : va_D A [(x, .inr (10, (fx.set 1 (.int p0))))] := hD
      refine lv_iconst (v := 1) hx hb dX10_end_19 (by decide) ?_
      exact W.zret (v := 1) hx hb hr (by decide) (fun t ht hW => ⟨⟨_, (), rfl, (by show _ = px_is0 p0; unfold px_is0; simp only [Int32.lt_iff_toInt_lt, Int32.le_iff_toInt_le, ← Int32.toInt_inj] at c_1 c_2; have e0 : (0 : Int32).toInt = 0 := rfl; first | (rw [if_pos (by omega)]; done) | (rw [if_neg (by omega)]; done)), trivial⟩, by subst hAe; exact hS.F ht⟩) (fun q h => by subst hAe; exact hS.2.2 q h) dX10_end_20
    · refine lv_iconst (v := 0) hx hb dX10_end_12 (by decide) ?_
      exact W.zret (v := 0) hx hb hr (by decide) (fun t ht hW => ⟨⟨_, (), rfl, (by show _ = px_is0 p0; unfold px_is0; simp only [Int32.lt_iff_toInt_lt, Int32.le_iff_toInt_le, ← Int32.toInt_inj] at c_1 c_2; have e0 : (0 : Int32).toInt = 0 := rfl; first | (rw [if_pos (by omega)]; done) | (rw [if_neg (by omega)]; done)), trivial⟩, by subst hAe; exact hS.F ht⟩) (fun q h => by subst hAe; exact hS.2.2 q h) dX10_end_13
end
section
set_option maxHeartbeats 4000000 in
set_option maxRecDepth 100000 in
theorem c_X11_isIn (l : Launch) (D : va_G) (y : Nat → ClassId) (sz : Nat) (p0 : Int32) (p1 : Int32) (p2 : Int32)  : Met l yX11_isIn (px_w yX11_isIn cX11_isIn 3 (some .boolean)) ({ frames := 0, cells := 0, slots := 0, locals := 0 }) (va_Pc [.int p0, .int p1, .int p2] (px_P D y sz [])) (vp_Si (fun r : Int32 => (r = 1 ∧ ¬ p0 < p1 ∧ ¬ p2 < p0) ∨ (r = 0 ∧ p0 < p1) ∨ (r = 0 ∧ p2 < p0))) 0 0 (fun _ => False) := by
  refine Met.ofW (cc := cX11_isIn) (maxL := 3) (ret := (some .boolean)) (by decide) rfl ?_
  intro p e s m args below meth c s₁ B hml hv
  obtain ⟨rfl, hsz, hP, hK, hD0⟩ := hv
  have hx := B.exec
  have hb := B.bytes
  have hr := B.returns
  have hts := atoms_spec (ws := px_w yX11_isIn cX11_isIn 3 (some .boolean)) B.pre
  have hg : ∀ w ∈ gw, w.before [.int p0, .int p1, .int p2].toArray s = true := fun w h => hts w (List.mem_cons_of_mem _ h)
  have hown : s.vm.findClass RX11 = some m.cls := findClass_of_methodNamed B.named
  have hlocks := B.notSynchronized
  subst hsz
  have hD := hD0
  have hP : va_P D vwCl [] s.heap := hP
  have hl := lv_entry ([.int p0, .int p1, .int p2]) (n := 3) (Nat.le_of_ble_eq_true rfl)
  rw [lg_entry_eq]
  generalize (lg_sl ([.int p0, .int p1, .int p2]) ++ List.replicate (3 - (lg_sl ([.int p0, .int p1, .int p2])).length) Slot.unset).toArray = ls at hl ⊢
  have hl : lv_has ls 3 [(0, .int p0), (1, .int p1), (2, .int p2)] := hl
  refine lv_iload_n hx hb dX11_isIn_0 rfl (lv_at hl 0 rfl) ?_
  refine lv_iload_n hx hb dX11_isIn_1 rfl (lv_at hl 1 rfl) ?_
  refine lv_icmp_lt (tgt := 14) hx hb dX11_isIn_2 (by decide) (fun c_1 => ?_) (fun c_1 => ?_)
  · refine lv_iconst (v := 0) hx hb dX11_isIn_14 (by decide) ?_
    exact W.zret (v := 0) hx hb hr (by decide) (fun t ht hW => ⟨_, rfl, (Or.inr (Or.inl ⟨rfl, c_1⟩)), ht⟩) (fun q h => by cases h) dX11_isIn_15
  · refine lv_iload_n hx hb dX11_isIn_5 rfl (lv_at hl 0 rfl) ?_
    refine lv_iload_n hx hb dX11_isIn_6 rfl (lv_at hl 2 rfl) ?_
    refine lv_icmp_gt (tgt := 14) hx hb dX11_isIn_7 (by decide) (fun c_2 => ?_) (fun c_2 => ?_)
    · refine lv_iconst (v := 0) hx hb dX11_isIn_14 (by decide) ?_
      exact W.zret (v := 0) hx hb hr (by decide) (fun t ht hW => ⟨_, rfl, (Or.inr (Or.inr ⟨rfl, c_2⟩)), ht⟩) (fun q h => by cases h) dX11_isIn_15
    · refine lv_iconst (v := 1) hx hb dX11_isIn_10 (by decide) ?_
      refine lv_goto (tgt := 15) hx hb dX11_isIn_11 (by decide) ?_
      exact W.zret (v := 1) hx hb hr (by decide) (fun t ht hW => ⟨_, rfl, (Or.inl ⟨rfl, c_1, c_2⟩), ht⟩) (fun q h => by cases h) dX11_isIn_15

set_option maxHeartbeats 4000000 in
set_option maxRecDepth 100000 in
theorem c_X11_isPerson (l : Launch) (D : va_G) (y : Nat → ClassId) (sz : Nat) (mo : Nat) (fmo : List Value) (ms : Nat) (fms : Nat → Int32) (p0 : Int32) (hmo_6 : fmo[6]? = some (.ref ms)) (hms_e1 : fms 1 = 0) : Met l yX11_isPerson (px_w yX11_isPerson cX11_isPerson 2 (some .boolean)) ({ frames := 1, cells := 0, slots := 0, locals := 22 }) (va_Pc [.ref mo, .int p0] (px_P D y sz [(mo, .inr (11, fmo)), (ms, .inl (y 1, 765, .inl fms))])) (vp_Si (fun r : Int32 => r = 0)) 0 0 (fun _ => False) := by
  refine Met.ofW (cc := cX11_isPerson) (maxL := 2) (ret := (some .boolean)) (by decide) rfl ?_
  intro p e s m args below meth c s₁ B hml hv
  obtain ⟨rfl, hsz, hP, hK, hD0⟩ := hv
  have hx := B.exec
  have hb := B.bytes
  have hr := B.returns
  have hts := atoms_spec (ws := px_w yX11_isPerson cX11_isPerson 2 (some .boolean)) B.pre
  have hg : ∀ w ∈ gw, w.before [.ref mo, .int p0].toArray s = true := fun w h => hts w (List.mem_cons_of_mem _ h)
  have hown : s.vm.findClass RX11 = some m.cls := findClass_of_methodNamed B.named
  have hlocks := B.notSynchronized
  subst hsz
  have hD := hD0
  have hP : va_P D vwCl [(mo, .inr (11, fmo)), (ms, .inl (y 1, 765, .inl fms))] s.heap := hP
  have hl := lv_entry ([.ref mo, .int p0]) (n := 2) (Nat.le_of_ble_eq_true rfl)
  rw [lg_entry_eq]
  generalize (lg_sl ([.ref mo, .int p0]) ++ List.replicate (2 - (lg_sl ([.ref mo, .int p0])).length) Slot.unset).toArray = ls at hl ⊢
  have hl : lv_has ls 2 [(0, .ref mo), (1, .int p0)] := hl
  refine lv_iload_n hx hb dX11_isPerson_0 rfl (lv_at hl 1 rfl) ?_
  refine lv_iconst (v := 0) hx hb dX11_isPerson_1 (by decide) ?_
  refine lv_aload_n hx hb dX11_isPerson_2 rfl (lv_at hl 0 rfl) ?_
  refine va_get (D := D) (ci := 11) (v := .ref ms) (C := RX11) (T := TX11) (N := 65) hx hb hg inGX11 hown hK hP 0 rfl rfl 6 (by decide) (hg _ q_6_132) (fun _ h9 => h9) hmo_6 dX11_isPerson_3 ?_
  refine lv_iconst (v := 1) hx hb dX11_isPerson_6 (by decide) ?_
  refine va_iald hx hb hK hP 1 1 rfl rfl (i := 1) (px_in (by decide)) dX11_isPerson_7 ?_
  refine px_top (v := 0) hms_e1 ?_
  refine lv_iconst (v := 1) hx hb dX11_isPerson_8 (by decide) ?_
  refine lv_isub hx hb dX11_isPerson_9 ?_
  refine px_top (v := (-1)) (by decide) ?_
  have hPc_1 := hP.sub (ws' := []) [] rfl
  have hDc_1 := hD.sub (ws' := []) [] (by decide) rfl
  refine vp_callSi (va_Run.run (va_runS (As := [.int p0, .int 0, .int (-1)]) (rest := []) ⟨hx, hb, hml, hown, hg⟩ (c_X11_isIn l D y s.heap.size p0 0 (-1) ) (va_cwS 3 hg (px_gS q_7_121 q_7_122 q_1_15 q_7_123) rfl rfl rfl (by decide +kernel) ⟨Nat.le_of_ble_eq_true rfl, Nat.le_of_ble_eq_true rfl⟩) (px_preS hK hPc_1 hDc_1) rfl rfl hl.1 rfl (lv_room (Nat.le_of_ble_eq_true rfl)) dX11_isPerson_10 ⟨Nat.le_of_ble_eq_true rfl, Nat.le_of_ble_eq_true rfl⟩)) (fun r_1 hw_1 => ?_)
  rcases hw_1 with ⟨rfl, g_1_0_0, g_1_0_1⟩ | ⟨rfl, g_1_1_0⟩ | ⟨rfl, g_1_2_0⟩
  · exact (by exfalso; simp only [Int32.lt_iff_toInt_lt, Int32.le_iff_toInt_le, ← Int32.toInt_inj] at g_1_0_0 g_1_0_1; have e0 : ((-1) : Int32).toInt = -1 := rfl; have e1 : (0 : Int32).toInt = 0 := rfl; omega)
  · exact W.zret (v := 0) hx hb hr (by decide) (fun t ht hW => ⟨_, rfl, rfl, ht⟩) (fun q h => by cases h) dX11_isPerson_13
  · exact W.zret (v := 0) hx hb hr (by decide) (fun t ht hW => ⟨_, rfl, rfl, ht⟩) (fun q h => by cases h) dX11_isPerson_13

set_option maxHeartbeats 4000000 in
set_option maxRecDepth 100000 in
theorem c_X11_isKind (l : Launch) (D : va_G) (y : Nat → ClassId) (sz : Nat) (mo : Nat) (fmo : List Value) (ms : Nat) (fms : Nat → Int32) (p0 : Int32) (hmo_6 : fmo[6]? = some (.ref ms)) (hms_e0 : fms 0 = 0) : Met l yX11_isKind (px_w yX11_isKind cX11_isKind 2 (some .boolean)) ({ frames := 1, cells := 0, slots := 0, locals := 22 }) (va_Pc [.ref mo, .int p0] (px_P D y sz [(mo, .inr (11, fmo)), (ms, .inl (y 1, 765, .inl fms))])) (vp_Si (fun r : Int32 => r = 0)) 0 0 (fun _ => False) := by
  refine Met.ofW (cc := cX11_isKind) (maxL := 2) (ret := (some .boolean)) (by decide) rfl ?_
  intro p e s m args below meth c s₁ B hml hv
  obtain ⟨rfl, hsz, hP, hK, hD0⟩ := hv
  have hx := B.exec
  have hb := B.bytes
  have hr := B.returns
  have hts := atoms_spec (ws := px_w yX11_isKind cX11_isKind 2 (some .boolean)) B.pre
  have hg : ∀ w ∈ gw, w.before [.ref mo, .int p0].toArray s = true := fun w h => hts w (List.mem_cons_of_mem _ h)
  have hown : s.vm.findClass RX11 = some m.cls := findClass_of_methodNamed B.named
  have hlocks := B.notSynchronized
  subst hsz
  have hD := hD0
  have hP : va_P D vwCl [(mo, .inr (11, fmo)), (ms, .inl (y 1, 765, .inl fms))] s.heap := hP
  have hl := lv_entry ([.ref mo, .int p0]) (n := 2) (Nat.le_of_ble_eq_true rfl)
  rw [lg_entry_eq]
  generalize (lg_sl ([.ref mo, .int p0]) ++ List.replicate (2 - (lg_sl ([.ref mo, .int p0])).length) Slot.unset).toArray = ls at hl ⊢
  have hl : lv_has ls 2 [(0, .ref mo), (1, .int p0)] := hl
  refine lv_iload_n hx hb dX11_isKind_0 rfl (lv_at hl 1 rfl) ?_
  refine lv_iconst (v := 0) hx hb dX11_isKind_1 (by decide) ?_
  refine lv_aload_n hx hb dX11_isKind_2 rfl (lv_at hl 0 rfl) ?_
  refine va_get (D := D) (ci := 11) (v := .ref ms) (C := RX11) (T := TX11) (N := 65) hx hb hg inGX11 hown hK hP 0 rfl rfl 6 (by decide) (hg _ q_6_132) (fun _ h9 => h9) hmo_6 dX11_isKind_3 ?_
  refine lv_iconst (v := 0) hx hb dX11_isKind_6 (by decide) ?_
  refine va_iald hx hb hK hP 1 1 rfl rfl (i := 0) (px_in (by decide)) dX11_isKind_7 ?_
  refine px_top (v := 0) hms_e0 ?_
  refine lv_iconst (v := 1) hx hb dX11_isKind_8 (by decide) ?_
  refine lv_isub hx hb dX11_isKind_9 ?_
  refine px_top (v := (-1)) (by decide) ?_
  have hPc_1 := hP.sub (ws' := []) [] rfl
  have hDc_1 := hD.sub (ws' := []) [] (by decide) rfl
  refine vp_callSi (va_Run.run (va_runS (As := [.int p0, .int 0, .int (-1)]) (rest := []) ⟨hx, hb, hml, hown, hg⟩ (c_X11_isIn l D y s.heap.size p0 0 (-1) ) (va_cwS 3 hg (px_gS q_7_121 q_7_122 q_1_15 q_7_123) rfl rfl rfl (by decide +kernel) ⟨Nat.le_of_ble_eq_true rfl, Nat.le_of_ble_eq_true rfl⟩) (px_preS hK hPc_1 hDc_1) rfl rfl hl.1 rfl (lv_room (Nat.le_of_ble_eq_true rfl)) dX11_isKind_10 ⟨Nat.le_of_ble_eq_true rfl, Nat.le_of_ble_eq_true rfl⟩)) (fun r_1 hw_1 => ?_)
  rcases hw_1 with ⟨rfl, g_1_0_0, g_1_0_1⟩ | ⟨rfl, g_1_1_0⟩ | ⟨rfl, g_1_2_0⟩
  · exact (by exfalso; simp only [Int32.lt_iff_toInt_lt, Int32.le_iff_toInt_le, ← Int32.toInt_inj] at g_1_0_0 g_1_0_1; have e0 : ((-1) : Int32).toInt = -1 := rfl; have e1 : (0 : Int32).toInt = 0 := rfl; omega)
  · exact W.zret (v := 0) hx hb hr (by decide) (fun t ht hW => ⟨_, rfl, rfl, ht⟩) (fun q h => by cases h) dX11_isKind_13
  · exact W.zret (v := 0) hx hb hr (by decide) (fun t ht hW => ⟨_, rfl, rfl, ht⟩) (fun q h => by cases h) dX11_isKind_13

set_option maxHeartbeats 4000000 in
set_option maxRecDepth 100000 in
theorem c_X11_areAsked (l : Launch) (D : va_G) (y : Nat → ClassId) (sz : Nat) (mo : Nat) (fmo : List Value) (ms : Nat) (fms : Nat → Int32) (p0 : Int32) (p1 : Int32) (p2 : Int32) (hmo_6 : fmo[6]? = some (.ref ms)) (hms_e1 : fms 1 = 0) : Met l yX11_areAsked (px_w yX11_areAsked cX11_areAsked 4 (some .boolean)) ({ frames := 2, cells := 0, slots := 0, locals := 43 }) (va_Pc [.ref mo, .int p0, .int p1, .int p2] (px_P D y sz [(mo, .inr (11, fmo)), (ms, .inl (y 1, 765, .inl fms))])) (vp_Si (fun r : Int32 => r = 0)) 0 0 (fun _ => False) := by
  refine Met.ofW (cc := cX11_areAsked) (maxL := 4) (ret := (some .boolean)) (by decide) rfl ?_
  intro p e s m args below meth c s₁ B hml hv
  obtain ⟨rfl, hsz, hP, hK, hD0⟩ := hv
  have hx := B.exec
  have hb := B.bytes
  have hr := B.returns
  have hts := atoms_spec (ws := px_w yX11_areAsked cX11_areAsked 4 (some .boolean)) B.pre
  have hg : ∀ w ∈ gw, w.before [.ref mo, .int p0, .int p1, .int p2].toArray s = true := fun w h => hts w (List.mem_cons_of_mem _ h)
  have hown : s.vm.findClass RX11 = some m.cls := findClass_of_methodNamed B.named
  have hlocks := B.notSynchronized
  subst hsz
  have hD := hD0
  have hP : va_P D vwCl [(mo, .inr (11, fmo)), (ms, .inl (y 1, 765, .inl fms))] s.heap := hP
  have hl := lv_entry ([.ref mo, .int p0, .int p1, .int p2]) (n := 4) (Nat.le_of_ble_eq_true rfl)
  rw [lg_entry_eq]
  generalize (lg_sl ([.ref mo, .int p0, .int p1, .int p2]) ++ List.replicate (4 - (lg_sl ([.ref mo, .int p0, .int p1, .int p2])).length) Slot.unset).toArray = ls at hl ⊢
  have hl : lv_has ls 4 [(0, .ref mo), (1, .int p0), (2, .int p1), (3, .int p2)] := hl
  refine lv_aload_n hx hb dX11_areAsked_0 rfl (lv_at hl 0 rfl) ?_
  refine lv_iload_n hx hb dX11_areAsked_1 rfl (lv_at hl 1 rfl) ?_
  have hPc_1 := hP.sub (ws' := [(mo, .inr (11, fmo)), (ms, .inl (y 1, 765, .inl fms))]) [0, 1] rfl
  have hDc_1 := hD.sub (ws' := [(mo, .inr (11, fmo)), (ms, .inl (y 1, 765, .inl fms))]) [0, 1] (by decide) rfl
  refine vp_callSi (va_Run.run (va_runV (As := [.int p0]) (rest := []) ⟨hx, hb, hml, hown, hg⟩ (c_X11_isPerson l D y s.heap.size mo fmo ms fms p0 hmo_6 hms_e1) (cwV 1 hg (px_gV q_7_195 q_7_197 q_p_81 q_1_15 q_7_198) rfl rfl rfl (by decide +kernel) ⟨Nat.le_of_ble_eq_true rfl, Nat.le_of_ble_eq_true rfl⟩) (px_preV hK hPc_1 hDc_1 (ci := 11) (q0 := 0) rfl rfl) rfl rfl hl.1 rfl (lv_room (Nat.le_of_ble_eq_true rfl)) dX11_areAsked_2 ⟨Nat.le_of_ble_eq_true rfl, Nat.le_of_ble_eq_true rfl⟩)) (fun r_1 hw_1 => ?_)
  obtain rfl : r_1 = 0 := hw_1
  refine lv_if_eq (tgt := 28) hx hb dX11_areAsked_5 (by decide) (fun _ => ?_) (fun c_2 => absurd c_2 (by decide))
  refine lv_iconst (v := 0) hx hb dX11_areAsked_28 (by decide) ?_
  exact W.zret (v := 0) hx hb hr (by decide) (fun t ht hW => ⟨_, rfl, rfl, ht⟩) (fun q h => by cases h) dX11_areAsked_29

set_option maxHeartbeats 4000000 in
set_option maxRecDepth 100000 in
theorem c_X11_areGames (l : Launch) (D : va_G) (y : Nat → ClassId) (sz : Nat) (mo : Nat) (fmo : List Value) (ms : Nat) (fms : Nat → Int32) (p0 : Int32) (p1 : Int32) (p2 : Int32) (hmo_6 : fmo[6]? = some (.ref ms)) (hms_e1 : fms 1 = 0) : Met l yX11_areGames (px_w yX11_areGames cX11_areGames 4 (some .boolean)) ({ frames := 1, cells := 0, slots := 0, locals := 22 }) (va_Pc [.ref mo, .int p0, .int p1, .int p2] (px_P D y sz [(mo, .inr (11, fmo)), (ms, .inl (y 1, 765, .inl fms))])) (vp_Si (fun r : Int32 => r = 0)) 0 0 (fun _ => False) := by
  refine Met.ofW (cc := cX11_areGames) (maxL := 4) (ret := (some .boolean)) (by decide) rfl ?_
  intro p e s m args below meth c s₁ B hml hv
  obtain ⟨rfl, hsz, hP, hK, hD0⟩ := hv
  have hx := B.exec
  have hb := B.bytes
  have hr := B.returns
  have hts := atoms_spec (ws := px_w yX11_areGames cX11_areGames 4 (some .boolean)) B.pre
  have hg : ∀ w ∈ gw, w.before [.ref mo, .int p0, .int p1, .int p2].toArray s = true := fun w h => hts w (List.mem_cons_of_mem _ h)
  have hown : s.vm.findClass RX11 = some m.cls := findClass_of_methodNamed B.named
  have hlocks := B.notSynchronized
  subst hsz
  have hD := hD0
  have hP : va_P D vwCl [(mo, .inr (11, fmo)), (ms, .inl (y 1, 765, .inl fms))] s.heap := hP
  have hl := lv_entry ([.ref mo, .int p0, .int p1, .int p2]) (n := 4) (Nat.le_of_ble_eq_true rfl)
  rw [lg_entry_eq]
  generalize (lg_sl ([.ref mo, .int p0, .int p1, .int p2]) ++ List.replicate (4 - (lg_sl ([.ref mo, .int p0, .int p1, .int p2])).length) Slot.unset).toArray = ls at hl ⊢
  have hl : lv_has ls 4 [(0, .ref mo), (1, .int p0), (2, .int p1), (3, .int p2)] := hl
  refine lv_iload_n hx hb dX11_areGames_0 rfl (lv_at hl 1 rfl) ?_
  refine lv_iconst (v := 0) hx hb dX11_areGames_1 (by decide) ?_
  refine lv_iconst (v := 3) hx hb dX11_areGames_2 (by decide) ?_
  have hPc_1 := hP.sub (ws' := []) [] rfl
  have hDc_1 := hD.sub (ws' := []) [] (by decide) rfl
  refine vp_callSi (va_Run.run (va_runS (As := [.int p0, .int 0, .int 3]) (rest := []) ⟨hx, hb, hml, hown, hg⟩ (c_X11_isIn l D y s.heap.size p0 0 3 ) (va_cwS 3 hg (px_gS q_7_121 q_7_122 q_1_15 q_7_123) rfl rfl rfl (by decide +kernel) ⟨Nat.le_of_ble_eq_true rfl, Nat.le_of_ble_eq_true rfl⟩) (px_preS hK hPc_1 hDc_1) rfl rfl hl.1 rfl (lv_room (Nat.le_of_ble_eq_true rfl)) dX11_areGames_3 ⟨Nat.le_of_ble_eq_true rfl, Nat.le_of_ble_eq_true rfl⟩)) (fun r_1 hw_1 => ?_)
  rcases hw_1 with ⟨rfl, g_1_0_0, g_1_0_1⟩ | ⟨rfl, g_1_1_0⟩ | ⟨rfl, g_1_2_0⟩
  · refine lv_if_eq (tgt := 61) hx hb dX11_areGames_6 (by decide) (fun c_2 => absurd c_2 (by decide)) (fun _ => ?_)
    refine lv_iload_n hx hb dX11_areGames_9 rfl (lv_at hl 2 rfl) ?_
    refine lv_iconst (v := 0) hx hb dX11_areGames_10 (by decide) ?_
    refine lv_iconst (v := 3) hx hb dX11_areGames_11 (by decide) ?_
    have hPc_3 := hP.sub (ws' := []) [] rfl
    have hDc_3 := hD.sub (ws' := []) [] (by decide) rfl
    refine vp_callSi (va_Run.run (va_runS (As := [.int p1, .int 0, .int 3]) (rest := []) ⟨hx, hb, hml, hown, hg⟩ (c_X11_isIn l D y s.heap.size p1 0 3 ) (va_cwS 3 hg (px_gS q_7_121 q_7_122 q_1_15 q_7_123) rfl rfl rfl (by decide +kernel) ⟨Nat.le_of_ble_eq_true rfl, Nat.le_of_ble_eq_true rfl⟩) (px_preS hK hPc_3 hDc_3) rfl rfl hl.1 rfl (lv_room (Nat.le_of_ble_eq_true rfl)) dX11_areGames_12 ⟨Nat.le_of_ble_eq_true rfl, Nat.le_of_ble_eq_true rfl⟩)) (fun r_3 hw_3 => ?_)
    rcases hw_3 with ⟨rfl, g_3_0_0, g_3_0_1⟩ | ⟨rfl, g_3_1_0⟩ | ⟨rfl, g_3_2_0⟩
    · refine lv_if_eq (tgt := 61) hx hb dX11_areGames_15 (by decide) (fun c_4 => absurd c_4 (by decide)) (fun _ => ?_)
      refine lv_iload_n hx hb dX11_areGames_18 rfl (lv_at hl 3 rfl) ?_
      refine lv_iconst (v := 1) hx hb dX11_areGames_19 (by decide) ?_
      refine lv_bipush (v := 30) hx hb dX11_areGames_20 (by decide) ?_
      have hPc_5 := hP.sub (ws' := []) [] rfl
      have hDc_5 := hD.sub (ws' := []) [] (by decide) rfl
      refine vp_callSi (va_Run.run (va_runS (As := [.int p2, .int 1, .int 30]) (rest := []) ⟨hx, hb, hml, hown, hg⟩ (c_X11_isIn l D y s.heap.size p2 1 30 ) (va_cwS 3 hg (px_gS q_7_121 q_7_122 q_1_15 q_7_123) rfl rfl rfl (by decide +kernel) ⟨Nat.le_of_ble_eq_true rfl, Nat.le_of_ble_eq_true rfl⟩) (px_preS hK hPc_5 hDc_5) rfl rfl hl.1 rfl (lv_room (Nat.le_of_ble_eq_true rfl)) dX11_areGames_22 ⟨Nat.le_of_ble_eq_true rfl, Nat.le_of_ble_eq_true rfl⟩)) (fun r_5 hw_5 => ?_)
      rcases hw_5 with ⟨rfl, g_5_0_0, g_5_0_1⟩ | ⟨rfl, g_5_1_0⟩ | ⟨rfl, g_5_2_0⟩
      · refine lv_if_eq (tgt := 61) hx hb dX11_areGames_25 (by decide) (fun c_6 => absurd c_6 (by decide)) (fun _ => ?_)
        refine lv_aload_n hx hb dX11_areGames_28 rfl (lv_at hl 0 rfl) ?_
        refine va_get (D := D) (ci := 11) (v := .ref ms) (C := RX11) (T := TX11) (N := 65) hx hb hg inGX11 hown hK hP 0 rfl rfl 6 (by decide) (hg _ q_6_132) (fun _ h9 => h9) hmo_6 dX11_areGames_29 ?_
        refine lv_iconst (v := 1) hx hb dX11_areGames_32 (by decide) ?_
        refine va_iald hx hb hK hP 1 1 rfl rfl (i := 1) (px_in (by decide)) dX11_areGames_33 ?_
        refine px_top (v := 0) hms_e1 ?_
        refine lv_iconst (v := 1) hx hb dX11_areGames_34 (by decide) ?_
        refine lv_icmp_le (tgt := 61) hx hb dX11_areGames_35 (by decide) (fun _ => ?_) (fun c_7 => absurd c_7 (by decide))
        refine lv_iconst (v := 0) hx hb dX11_areGames_61 (by decide) ?_
        exact W.zret (v := 0) hx hb hr (by decide) (fun t ht hW => ⟨_, rfl, rfl, ht⟩) (fun q h => by cases h) dX11_areGames_62
      · refine lv_if_eq (tgt := 61) hx hb dX11_areGames_25 (by decide) (fun _ => ?_) (fun c_8 => absurd c_8 (by decide))
        refine lv_iconst (v := 0) hx hb dX11_areGames_61 (by decide) ?_
        exact W.zret (v := 0) hx hb hr (by decide) (fun t ht hW => ⟨_, rfl, rfl, ht⟩) (fun q h => by cases h) dX11_areGames_62
      · refine lv_if_eq (tgt := 61) hx hb dX11_areGames_25 (by decide) (fun _ => ?_) (fun c_9 => absurd c_9 (by decide))
        refine lv_iconst (v := 0) hx hb dX11_areGames_61 (by decide) ?_
        exact W.zret (v := 0) hx hb hr (by decide) (fun t ht hW => ⟨_, rfl, rfl, ht⟩) (fun q h => by cases h) dX11_areGames_62
    · refine lv_if_eq (tgt := 61) hx hb dX11_areGames_15 (by decide) (fun _ => ?_) (fun c_10 => absurd c_10 (by decide))
      refine lv_iconst (v := 0) hx hb dX11_areGames_61 (by decide) ?_
      exact W.zret (v := 0) hx hb hr (by decide) (fun t ht hW => ⟨_, rfl, rfl, ht⟩) (fun q h => by cases h) dX11_areGames_62
    · refine lv_if_eq (tgt := 61) hx hb dX11_areGames_15 (by decide) (fun _ => ?_) (fun c_11 => absurd c_11 (by decide))
      refine lv_iconst (v := 0) hx hb dX11_areGames_61 (by decide) ?_
      exact W.zret (v := 0) hx hb hr (by decide) (fun t ht hW => ⟨_, rfl, rfl, ht⟩) (fun q h => by cases h) dX11_areGames_62
  · refine lv_if_eq (tgt := 61) hx hb dX11_areGames_6 (by decide) (fun _ => ?_) (fun c_12 => absurd c_12 (by decide))
    refine lv_iconst (v := 0) hx hb dX11_areGames_61 (by decide) ?_
    exact W.zret (v := 0) hx hb hr (by decide) (fun t ht hW => ⟨_, rfl, rfl, ht⟩) (fun q h => by cases h) dX11_areGames_62
  · refine lv_if_eq (tgt := 61) hx hb dX11_areGames_6 (by decide) (fun _ => ?_) (fun c_13 => absurd c_13 (by decide))
    refine lv_iconst (v := 0) hx hb dX11_areGames_61 (by decide) ?_
    exact W.zret (v := 0) hx hb hr (by decide) (fun t ht hW => ⟨_, rfl, rfl, ht⟩) (fun q h => by cases h) dX11_areGames_62

set_option maxHeartbeats 4000000 in
set_option maxRecDepth 100000 in
theorem c_X11_thrown (l : Launch) (D : va_G) (y : Nat → ClassId) (sz : Nat) (mo : Nat) (fmo : List Value) (hmo_0 : fmo[0]? = some (.int 0)) : Met l yX11_thrown (px_w yX11_thrown cX11_thrown 1 (some .int)) ({ frames := 0, cells := 0, slots := 0, locals := 0 }) (va_Pc [.ref mo] (px_P D y sz [(mo, .inr (11, fmo))])) (vp_Si (fun r : Int32 => r = 0)) 0 0 (fun _ => False) := by
  refine Met.ofW (cc := cX11_thrown) (maxL := 1) (ret := (some .int)) (by decide) rfl ?_
  intro p e s m args below meth c s₁ B hml hv
  obtain ⟨rfl, hsz, hP, hK, hD0⟩ := hv
  have hx := B.exec
  have hb := B.bytes
  have hr := B.returns
  have hts := atoms_spec (ws := px_w yX11_thrown cX11_thrown 1 (some .int)) B.pre
  have hg : ∀ w ∈ gw, w.before [.ref mo].toArray s = true := fun w h => hts w (List.mem_cons_of_mem _ h)
  have hown : s.vm.findClass RX11 = some m.cls := findClass_of_methodNamed B.named
  have hlocks := B.notSynchronized
  subst hsz
  have hD := hD0
  have hP : va_P D vwCl [(mo, .inr (11, fmo))] s.heap := hP
  have hl := lv_entry ([.ref mo]) (n := 1) (Nat.le_of_ble_eq_true rfl)
  rw [lg_entry_eq]
  generalize (lg_sl ([.ref mo]) ++ List.replicate (1 - (lg_sl ([.ref mo])).length) Slot.unset).toArray = ls at hl ⊢
  have hl : lv_has ls 1 [(0, .ref mo)] := hl
  refine lv_aload_n hx hb dX11_thrown_0 rfl (lv_at hl 0 rfl) ?_
  refine va_get (D := D) (ci := 11) (v := .int 0) (C := RX11) (T := TX11) (N := 65) hx hb hg inGX11 hown hK hP 0 rfl rfl 0 (by decide) (hg _ q_6_126) (fun _ h9 => h9) hmo_0 dX11_thrown_1 ?_
  exact W.iret (v := 0) hx hb hr (fun t ht hW => ⟨_, rfl, rfl, ht⟩) (fun q h => by cases h) dX11_thrown_4

set_option maxHeartbeats 4000000 in
set_option maxRecDepth 100000 in
theorem c_X11_thrown_1 (l : Launch) (D : va_G) (y : Nat → ClassId) (sz : Nat) (mo : Nat) (fmo : List Value) (hmo_0 : fmo[0]? = some (.int 1)) : Met l yX11_thrown (px_w yX11_thrown cX11_thrown 1 (some .int)) ({ frames := 0, cells := 0, slots := 0, locals := 0 }) (va_Pc [.ref mo] (px_P D y sz [(mo, .inr (11, fmo))])) (vp_Si (fun r : Int32 => r = 1)) 0 0 (fun _ => False) := by
  refine Met.ofW (cc := cX11_thrown) (maxL := 1) (ret := (some .int)) (by decide) rfl ?_
  intro p e s m args below meth c s₁ B hml hv
  obtain ⟨rfl, hsz, hP, hK, hD0⟩ := hv
  have hx := B.exec
  have hb := B.bytes
  have hr := B.returns
  have hts := atoms_spec (ws := px_w yX11_thrown cX11_thrown 1 (some .int)) B.pre
  have hg : ∀ w ∈ gw, w.before [.ref mo].toArray s = true := fun w h => hts w (List.mem_cons_of_mem _ h)
  have hown : s.vm.findClass RX11 = some m.cls := findClass_of_methodNamed B.named
  have hlocks := B.notSynchronized
  subst hsz
  have hD := hD0
  have hP : va_P D vwCl [(mo, .inr (11, fmo))] s.heap := hP
  have hl := lv_entry ([.ref mo]) (n := 1) (Nat.le_of_ble_eq_true rfl)
  rw [lg_entry_eq]
  generalize (lg_sl ([.ref mo]) ++ List.replicate (1 - (lg_sl ([.ref mo])).length) Slot.unset).toArray = ls at hl ⊢
  have hl : lv_has ls 1 [(0, .ref mo)] := hl
  refine lv_aload_n hx hb dX11_thrown_0 rfl (lv_at hl 0 rfl) ?_
  refine va_get (D := D) (ci := 11) (v := .int 1) (C := RX11) (T := TX11) (N := 65) hx hb hg inGX11 hown hK hP 0 rfl rfl 0 (by decide) (hg _ q_6_126) (fun _ h9 => h9) hmo_0 dX11_thrown_1 ?_
  exact W.iret (v := 1) hx hb hr (fun t ht hW => ⟨_, rfl, rfl, ht⟩) (fun q h => by cases h) dX11_thrown_4

set_option maxHeartbeats 4000000 in
set_option maxRecDepth 100000 in
theorem c_X11_fault (l : Launch) (D : va_G) (y : Nat → ClassId) (sz : Nat) (mo : Nat) (fmo : List Value) (hmo_0 : fmo[0]? = some (.int 0)) (hmo_15 : fmo[15]? = some (.int 0)) : Met l yX11_fault (px_w yX11_fault cX11_fault 1 (some .int)) ({ frames := 0, cells := 0, slots := 0, locals := 0 }) (va_Pc [.ref mo] (px_P D y sz [(mo, .inr (11, fmo))])) (va_Qi (fun (r : Int32) (u : Unit) => r = 0) (fun (u : Unit) t => True) (va_A [(mo, .inr (11, fmo))] sz)) 0 0 (va_A [(mo, .inr (11, fmo))] sz) := by
  refine Met.ofW (cc := cX11_fault) (maxL := 1) (ret := (some .int)) (by decide) rfl ?_
  intro p e s m args below meth c s₁ B hml hv
  obtain ⟨rfl, hsz, hP, hK, hD0⟩ := hv
  have hx := B.exec
  have hb := B.bytes
  have hr := B.returns
  have hts := atoms_spec (ws := px_w yX11_fault cX11_fault 1 (some .int)) B.pre
  have hg : ∀ w ∈ gw, w.before [.ref mo].toArray s = true := fun w h => hts w (List.mem_cons_of_mem _ h)
  have hown : s.vm.findClass RX11 = some m.cls := findClass_of_methodNamed B.named
  have hlocks := B.notSynchronized
  subst hsz
  have hD := hD0.self (sz := s.heap.size)
  generalize hAe : va_A [(mo, .inr (11, fmo))] s.heap.size = A at hD ⊢
  have hA : ∀ q : Nat, s.heap.size ≤ q → A q := fun q h => by rw [← hAe]; exact Or.inr h
  have hS : va_S A s.heap s.heap [] := va_S.rf
  have hP : va_P D vwCl [(mo, .inr (11, fmo))] s.heap := hP
  have hl := lv_entry ([.ref mo]) (n := 1) (Nat.le_of_ble_eq_true rfl)
  rw [lg_entry_eq]
  generalize (lg_sl ([.ref mo]) ++ List.replicate (1 - (lg_sl ([.ref mo])).length) Slot.unset).toArray = ls at hl ⊢
  have hl : lv_has ls 1 [(0, .ref mo)] := hl
  refine lv_aload_n hx hb dX11_fault_0 rfl (lv_at hl 0 rfl) ?_
  refine lv_iconst (v := 0) hx hb dX11_fault_1 (by decide) ?_
  refine va_put (D := D) (ci := 11) (v := .int 0) (ty := .int) (C := RX11) (T := TX11) (N := 65) hx hb hg inGX11 tyX11 tyX11_ok nmX11 hown hK hP hD hS 0 rfl rfl 0 (by decide) (hg _ q_6_126) (fun _ h9 => h9) rfl (by decide +kernel) rfl rfl (px_len hmo_0) dX11_fault_2 (fun H locs hP hD hS => ?_)
  have hP : va_P D vwCl [(mo, .inr (11, (fmo.set 0 (.int 0))))] H := hP
  have hD : va_D A [(mo, .inr (11, (fmo.set 0 (.int 0))))] := hD
  refine lv_aload_n hx hb dX11_fault_5 rfl (lv_at hl 0 rfl) ?_
  refine va_get (D := D) (ci := 11) (v := .int 0) (C := RX11) (T := TX11) (N := 65) hx hb hg inGX11 hown hK hP 0 rfl rfl 15 (by decide) (hg _ q_6_141) (fun _ h9 => h9) (px_sn (by decide) hmo_15) dX11_fault_6 ?_
  exact W.iret (v := 0) hx hb hr (fun t ht hW => ⟨⟨_, (), rfl, rfl, trivial⟩, by subst hAe; exact hS.F ht⟩) (fun q h => by subst hAe; exact hS.2.2 q h) dX11_fault_9

set_option maxHeartbeats 4000000 in
set_option maxRecDepth 100000 in
theorem c_X11_person (l : Launch) (D : va_G) (y : Nat → ClassId) (sz : Nat) (mo : Nat) (fmo : List Value) (ms : Nat) (fms : Nat → Int32) (p0 : Int32) (p1 : Int32) (hmo_0 : fmo[0]? = some (.int 0)) (hmo_6 : fmo[6]? = some (.ref ms)) (hms_e1 : fms 1 = 0) : Met l yX11_person (px_w yX11_person cX11_person 5 (some .int)) ({ frames := 2, cells := 0, slots := 0, locals := 43 }) (va_Pc [.ref mo, .int p0, .int p1] (px_P D y sz [(mo, .inr (11, fmo)), (ms, .inl (y 1, 765, .inl fms))])) (va_Qi (fun (r : Int32) (u : Unit) => r = (-1)) (fun (u : Unit) t => True) (va_A [(mo, .inr (11, fmo)), (ms, .inl (y 1, 765, .inl fms))] sz)) 0 0 (va_A [(mo, .inr (11, fmo)), (ms, .inl (y 1, 765, .inl fms))] sz) := by
  refine Met.ofW (cc := cX11_person) (maxL := 5) (ret := (some .int)) (by decide) rfl ?_
  intro p e s m args below meth c s₁ B hml hv
  obtain ⟨rfl, hsz, hP, hK, hD0⟩ := hv
  have hx := B.exec
  have hb := B.bytes
  have hr := B.returns
  have hts := atoms_spec (ws := px_w yX11_person cX11_person 5 (some .int)) B.pre
  have hg : ∀ w ∈ gw, w.before [.ref mo, .int p0, .int p1].toArray s = true := fun w h => hts w (List.mem_cons_of_mem _ h)
  have hown : s.vm.findClass RX11 = some m.cls := findClass_of_methodNamed B.named
  have hlocks := B.notSynchronized
  subst hsz
  have hD := hD0.self (sz := s.heap.size)
  generalize hAe : va_A [(mo, .inr (11, fmo)), (ms, .inl (y 1, 765, .inl fms))] s.heap.size = A at hD ⊢
  have hA : ∀ q : Nat, s.heap.size ≤ q → A q := fun q h => by rw [← hAe]; exact Or.inr h
  have hS : va_S A s.heap s.heap [] := va_S.rf
  have hP : va_P D vwCl [(mo, .inr (11, fmo)), (ms, .inl (y 1, 765, .inl fms))] s.heap := hP
  have hl := lv_entry ([.ref mo, .int p0, .int p1]) (n := 5) (Nat.le_of_ble_eq_true rfl)
  rw [lg_entry_eq]
  generalize (lg_sl ([.ref mo, .int p0, .int p1]) ++ List.replicate (5 - (lg_sl ([.ref mo, .int p0, .int p1])).length) Slot.unset).toArray = ls at hl ⊢
  have hl : lv_has ls 5 [(0, .ref mo), (1, .int p0), (2, .int p1)] := hl
  refine lv_aload_n hx hb dX11_person_0 rfl (lv_at hl 0 rfl) ?_
  refine lv_iconst (v := 0) hx hb dX11_person_1 (by decide) ?_
  refine va_put (D := D) (ci := 11) (v := .int 0) (ty := .int) (C := RX11) (T := TX11) (N := 65) hx hb hg inGX11 tyX11 tyX11_ok nmX11 hown hK hP hD hS 0 rfl rfl 0 (by decide) (hg _ q_6_126) (fun _ h9 => h9) rfl (by decide +kernel) rfl rfl (px_len hmo_0) dX11_person_2 (fun H locs hP hD hS => ?_)
  have hP : va_P D vwCl [(mo, .inr (11, (fmo.set 0 (.int 0)))), (ms, .inl (y 1, 765, .inl fms))] H := hP
  have hD : va_D A [(mo, .inr (11, (fmo.set 0 (.int 0)))), (ms, .inl (y 1, 765, .inl fms))] := hD
  refine lv_aload_n hx hb dX11_person_5 rfl (lv_at hl 0 rfl) ?_
  refine lv_iload_n hx hb dX11_person_6 rfl (lv_at hl 1 rfl) ?_
  have hPc_1 := hP.sub (ws' := [(mo, .inr (11, (fmo.set 0 (.int 0)))), (ms, .inl (y 1, 765, .inl fms))]) [0, 1] rfl
  have hDc_1 := hD.sub (ws' := [(mo, .inr (11, (fmo.set 0 (.int 0)))), (ms, .inl (y 1, 765, .inl fms))]) [0, 1] (by decide) rfl
  refine vp_callSi (va_Run.run (va_runV (As := [.int p0]) (rest := []) ⟨hx, hb, hml, hown, hg⟩ (c_X11_isPerson l D y H.size mo (fmo.set 0 (.int 0)) ms fms p0 (px_sn (by decide) hmo_6) hms_e1) (cwV 1 hg (px_gV q_7_195 q_7_197 q_p_81 q_1_15 q_7_198) rfl rfl rfl (by decide +kernel) ⟨Nat.le_of_ble_eq_true rfl, Nat.le_of_ble_eq_true rfl⟩) (px_preV hK hPc_1 hDc_1 (ci := 11) (q0 := 0) rfl rfl) rfl rfl hl.1 rfl (lv_room (Nat.le_of_ble_eq_true rfl)) dX11_person_7 ⟨Nat.le_of_ble_eq_true rfl, Nat.le_of_ble_eq_true rfl⟩)) (fun r_1 hw_1 => ?_)
  obtain rfl : r_1 = 0 := hw_1
  refine lv_if_ne (tgt := 15) hx hb dX11_person_10 (by decide) (fun c_2 => absurd c_2 (by decide)) (fun _ => ?_)
  refine lv_iconst (v := (-1)) hx hb dX11_person_13 (by decide) ?_
  exact W.iret (v := (-1)) hx hb hr (fun t ht hW => ⟨⟨_, (), rfl, rfl, trivial⟩, by subst hAe; exact hS.F ht⟩) (fun q h => by subst hAe; exact hS.2.2 q h) dX11_person_14

set_option maxHeartbeats 4000000 in
set_option maxRecDepth 100000 in
theorem c_X11_book (l : Launch) (D : va_G) (y : Nat → ClassId) (sz : Nat) (mo : Nat) (fmo : List Value) (ms : Nat) (fms : Nat → Int32) (p0 : Int32) (hmo_0 : fmo[0]? = some (.int 0)) (hmo_6 : fmo[6]? = some (.ref ms)) (hms_e0 : fms 0 = 0) : Met l yX11_book (px_w yX11_book cX11_book 2 (some .int)) ({ frames := 2, cells := 0, slots := 0, locals := 43 }) (va_Pc [.ref mo, .int p0] (px_P D y sz [(mo, .inr (11, fmo)), (ms, .inl (y 1, 765, .inl fms))])) (va_Qi (fun (r : Int32) (u : Unit) => r = (-1)) (fun (u : Unit) t => True) (va_A [(mo, .inr (11, fmo)), (ms, .inl (y 1, 765, .inl fms))] sz)) 0 0 (va_A [(mo, .inr (11, fmo)), (ms, .inl (y 1, 765, .inl fms))] sz) := by
  refine Met.ofW (cc := cX11_book) (maxL := 2) (ret := (some .int)) (by decide) rfl ?_
  intro p e s m args below meth c s₁ B hml hv
  obtain ⟨rfl, hsz, hP, hK, hD0⟩ := hv
  have hx := B.exec
  have hb := B.bytes
  have hr := B.returns
  have hts := atoms_spec (ws := px_w yX11_book cX11_book 2 (some .int)) B.pre
  have hg : ∀ w ∈ gw, w.before [.ref mo, .int p0].toArray s = true := fun w h => hts w (List.mem_cons_of_mem _ h)
  have hown : s.vm.findClass RX11 = some m.cls := findClass_of_methodNamed B.named
  have hlocks := B.notSynchronized
  subst hsz
  have hD := hD0.self (sz := s.heap.size)
  generalize hAe : va_A [(mo, .inr (11, fmo)), (ms, .inl (y 1, 765, .inl fms))] s.heap.size = A at hD ⊢
  have hA : ∀ q : Nat, s.heap.size ≤ q → A q := fun q h => by rw [← hAe]; exact Or.inr h
  have hS : va_S A s.heap s.heap [] := va_S.rf
  have hP : va_P D vwCl [(mo, .inr (11, fmo)), (ms, .inl (y 1, 765, .inl fms))] s.heap := hP
  have hl := lv_entry ([.ref mo, .int p0]) (n := 2) (Nat.le_of_ble_eq_true rfl)
  rw [lg_entry_eq]
  generalize (lg_sl ([.ref mo, .int p0]) ++ List.replicate (2 - (lg_sl ([.ref mo, .int p0])).length) Slot.unset).toArray = ls at hl ⊢
  have hl : lv_has ls 2 [(0, .ref mo), (1, .int p0)] := hl
  refine lv_aload_n hx hb dX11_book_0 rfl (lv_at hl 0 rfl) ?_
  refine lv_iconst (v := 0) hx hb dX11_book_1 (by decide) ?_
  refine va_put (D := D) (ci := 11) (v := .int 0) (ty := .int) (C := RX11) (T := TX11) (N := 65) hx hb hg inGX11 tyX11 tyX11_ok nmX11 hown hK hP hD hS 0 rfl rfl 0 (by decide) (hg _ q_6_126) (fun _ h9 => h9) rfl (by decide +kernel) rfl rfl (px_len hmo_0) dX11_book_2 (fun H locs hP hD hS => ?_)
  have hP : va_P D vwCl [(mo, .inr (11, (fmo.set 0 (.int 0)))), (ms, .inl (y 1, 765, .inl fms))] H := hP
  have hD : va_D A [(mo, .inr (11, (fmo.set 0 (.int 0)))), (ms, .inl (y 1, 765, .inl fms))] := hD
  refine lv_aload_n hx hb dX11_book_5 rfl (lv_at hl 0 rfl) ?_
  refine lv_iload_n hx hb dX11_book_6 rfl (lv_at hl 1 rfl) ?_
  have hPc_1 := hP.sub (ws' := [(mo, .inr (11, (fmo.set 0 (.int 0)))), (ms, .inl (y 1, 765, .inl fms))]) [0, 1] rfl
  have hDc_1 := hD.sub (ws' := [(mo, .inr (11, (fmo.set 0 (.int 0)))), (ms, .inl (y 1, 765, .inl fms))]) [0, 1] (by decide) rfl
  refine vp_callSi (va_Run.run (va_runV (As := [.int p0]) (rest := []) ⟨hx, hb, hml, hown, hg⟩ (c_X11_isKind l D y H.size mo (fmo.set 0 (.int 0)) ms fms p0 (px_sn (by decide) hmo_6) hms_e0) (cwV 1 hg (px_gV q_7_199 q_7_201 q_p_82 q_1_15 q_7_202) rfl rfl rfl (by decide +kernel) ⟨Nat.le_of_ble_eq_true rfl, Nat.le_of_ble_eq_true rfl⟩) (px_preV hK hPc_1 hDc_1 (ci := 11) (q0 := 0) rfl rfl) rfl rfl hl.1 rfl (lv_room (Nat.le_of_ble_eq_true rfl)) dX11_book_7 ⟨Nat.le_of_ble_eq_true rfl, Nat.le_of_ble_eq_true rfl⟩)) (fun r_1 hw_1 => ?_)
  obtain rfl : r_1 = 0 := hw_1
  refine lv_if_eq (tgt := 28) hx hb dX11_book_10 (by decide) (fun _ => ?_) (fun c_2 => absurd c_2 (by decide))
  refine lv_iconst (v := (-1)) hx hb dX11_book_28 (by decide) ?_
  exact W.iret (v := (-1)) hx hb hr (fun t ht hW => ⟨⟨_, (), rfl, rfl, trivial⟩, by subst hAe; exact hS.F ht⟩) (fun q h => by subst hAe; exact hS.2.2 q h) dX11_book_29

set_option maxHeartbeats 4000000 in
set_option maxRecDepth 100000 in
theorem c_X11_heap (l : Launch) (D : va_G) (y : Nat → ClassId) (sz : Nat) (mo : Nat) (fmo : List Value) (ms : Nat) (fms : Nat → Int32) (p0 : Int32) (hmo_0 : fmo[0]? = some (.int 0)) (hmo_6 : fmo[6]? = some (.ref ms)) (hms_e7 : fms 7 = 0) : Met l yX11_heap (px_w yX11_heap cX11_heap 2 (some .int)) ({ frames := 1, cells := 0, slots := 0, locals := 22 }) (va_Pc [.ref mo, .int p0] (px_P D y sz [(mo, .inr (11, fmo)), (ms, .inl (y 1, 765, .inl fms))])) (va_Qi (fun (r : Int32) (u : Unit) => r = (-1)) (fun (u : Unit) t => True) (va_A [(mo, .inr (11, fmo)), (ms, .inl (y 1, 765, .inl fms))] sz)) 0 0 (va_A [(mo, .inr (11, fmo)), (ms, .inl (y 1, 765, .inl fms))] sz) := by
  refine Met.ofW (cc := cX11_heap) (maxL := 2) (ret := (some .int)) (by decide) rfl ?_
  intro p e s m args below meth c s₁ B hml hv
  obtain ⟨rfl, hsz, hP, hK, hD0⟩ := hv
  have hx := B.exec
  have hb := B.bytes
  have hr := B.returns
  have hts := atoms_spec (ws := px_w yX11_heap cX11_heap 2 (some .int)) B.pre
  have hg : ∀ w ∈ gw, w.before [.ref mo, .int p0].toArray s = true := fun w h => hts w (List.mem_cons_of_mem _ h)
  have hown : s.vm.findClass RX11 = some m.cls := findClass_of_methodNamed B.named
  have hlocks := B.notSynchronized
  subst hsz
  have hD := hD0.self (sz := s.heap.size)
  generalize hAe : va_A [(mo, .inr (11, fmo)), (ms, .inl (y 1, 765, .inl fms))] s.heap.size = A at hD ⊢
  have hA : ∀ q : Nat, s.heap.size ≤ q → A q := fun q h => by rw [← hAe]; exact Or.inr h
  have hS : va_S A s.heap s.heap [] := va_S.rf
  have hP : va_P D vwCl [(mo, .inr (11, fmo)), (ms, .inl (y 1, 765, .inl fms))] s.heap := hP
  have hl := lv_entry ([.ref mo, .int p0]) (n := 2) (Nat.le_of_ble_eq_true rfl)
  rw [lg_entry_eq]
  generalize (lg_sl ([.ref mo, .int p0]) ++ List.replicate (2 - (lg_sl ([.ref mo, .int p0])).length) Slot.unset).toArray = ls at hl ⊢
  have hl : lv_has ls 2 [(0, .ref mo), (1, .int p0)] := hl
  refine lv_aload_n hx hb dX11_heap_0 rfl (lv_at hl 0 rfl) ?_
  refine lv_iconst (v := 0) hx hb dX11_heap_1 (by decide) ?_
  refine va_put (D := D) (ci := 11) (v := .int 0) (ty := .int) (C := RX11) (T := TX11) (N := 65) hx hb hg inGX11 tyX11 tyX11_ok nmX11 hown hK hP hD hS 0 rfl rfl 0 (by decide) (hg _ q_6_126) (fun _ h9 => h9) rfl (by decide +kernel) rfl rfl (px_len hmo_0) dX11_heap_2 (fun H locs hP hD hS => ?_)
  have hP : va_P D vwCl [(mo, .inr (11, (fmo.set 0 (.int 0)))), (ms, .inl (y 1, 765, .inl fms))] H := hP
  have hD : va_D A [(mo, .inr (11, (fmo.set 0 (.int 0)))), (ms, .inl (y 1, 765, .inl fms))] := hD
  refine lv_iload_n hx hb dX11_heap_5 rfl (lv_at hl 1 rfl) ?_
  refine lv_iconst (v := 0) hx hb dX11_heap_6 (by decide) ?_
  refine lv_aload_n hx hb dX11_heap_7 rfl (lv_at hl 0 rfl) ?_
  refine va_get (D := D) (ci := 11) (v := .ref ms) (C := RX11) (T := TX11) (N := 65) hx hb hg inGX11 hown hK hP 0 rfl rfl 6 (by decide) (hg _ q_6_132) (fun _ h9 => h9) (px_sn (by decide) hmo_6) dX11_heap_8 ?_
  refine lv_bipush (v := 7) hx hb dX11_heap_11 (by decide) ?_
  refine va_iald hx hb hK hP 1 1 rfl rfl (i := 7) (px_in (by decide)) dX11_heap_13 ?_
  refine px_top (v := 0) hms_e7 ?_
  refine lv_iconst (v := 1) hx hb dX11_heap_14 (by decide) ?_
  refine lv_isub hx hb dX11_heap_15 ?_
  refine px_top (v := (-1)) (by decide) ?_
  have hPc_1 := hP.sub (ws' := []) [] rfl
  have hDc_1 := hD.sub (ws' := []) [] (by decide) rfl
  refine vp_callSi (va_Run.run (va_runS (As := [.int p0, .int 0, .int (-1)]) (rest := []) ⟨hx, hb, hml, hown, hg⟩ (c_X11_isIn l D y H.size p0 0 (-1) ) (va_cwS 3 hg (px_gS q_7_121 q_7_122 q_1_15 q_7_123) rfl rfl rfl (by decide +kernel) ⟨Nat.le_of_ble_eq_true rfl, Nat.le_of_ble_eq_true rfl⟩) (px_preS hK hPc_1 hDc_1) rfl rfl hl.1 rfl (lv_room (Nat.le_of_ble_eq_true rfl)) dX11_heap_16 ⟨Nat.le_of_ble_eq_true rfl, Nat.le_of_ble_eq_true rfl⟩)) (fun r_1 hw_1 => ?_)
  rcases hw_1 with ⟨rfl, g_1_0_0, g_1_0_1⟩ | ⟨rfl, g_1_1_0⟩ | ⟨rfl, g_1_2_0⟩
  · exact (by exfalso; simp only [Int32.lt_iff_toInt_lt, Int32.le_iff_toInt_le, ← Int32.toInt_inj] at g_1_0_0 g_1_0_1; have e0 : ((-1) : Int32).toInt = -1 := rfl; have e1 : (0 : Int32).toInt = 0 := rfl; omega)
  · refine lv_if_eq (tgt := 34) hx hb dX11_heap_19 (by decide) (fun _ => ?_) (fun c_2 => absurd c_2 (by decide))
    refine lv_iconst (v := (-1)) hx hb dX11_heap_34 (by decide) ?_
    exact W.iret (v := (-1)) hx hb hr (fun t ht hW => ⟨⟨_, (), rfl, rfl, trivial⟩, by subst hAe; exact hS.F ht⟩) (fun q h => by subst hAe; exact hS.2.2 q h) dX11_heap_35
  · refine lv_if_eq (tgt := 34) hx hb dX11_heap_19 (by decide) (fun _ => ?_) (fun c_3 => absurd c_3 (by decide))
    refine lv_iconst (v := (-1)) hx hb dX11_heap_34 (by decide) ?_
    exact W.iret (v := (-1)) hx hb hr (fun t ht hW => ⟨⟨_, (), rfl, rfl, trivial⟩, by subst hAe; exact hS.F ht⟩) (fun q h => by subst hAe; exact hS.2.2 q h) dX11_heap_35

set_option maxHeartbeats 4000000 in
set_option maxRecDepth 100000 in
theorem c_X11_why (l : Launch) (D : va_G) (y : Nat → ClassId) (sz : Nat) (mo : Nat) (fmo : List Value) (ms : Nat) (fms : Nat → Int32) (p0 : Int32) (p1 : Int32) (p2 : Int32) (hmo_0 : fmo[0]? = some (.int 0)) (hmo_6 : fmo[6]? = some (.ref ms)) (hms_e1 : fms 1 = 0) : Met l yX11_why (px_w yX11_why cX11_why 4 (some .int)) ({ frames := 3, cells := 0, slots := 0, locals := 66 }) (va_Pc [.ref mo, .int p0, .int p1, .int p2] (px_P D y sz [(mo, .inr (11, fmo)), (ms, .inl (y 1, 765, .inl fms))])) (va_Qi (fun (r : Int32) (u : Unit) => r = (-1)) (fun (u : Unit) t => True) (va_A [(mo, .inr (11, fmo)), (ms, .inl (y 1, 765, .inl fms))] sz)) 0 0 (va_A [(mo, .inr (11, fmo)), (ms, .inl (y 1, 765, .inl fms))] sz) := by
  refine Met.ofW (cc := cX11_why) (maxL := 4) (ret := (some .int)) (by decide) rfl ?_
  intro p e s m args below meth c s₁ B hml hv
  obtain ⟨rfl, hsz, hP, hK, hD0⟩ := hv
  have hx := B.exec
  have hb := B.bytes
  have hr := B.returns
  have hts := atoms_spec (ws := px_w yX11_why cX11_why 4 (some .int)) B.pre
  have hg : ∀ w ∈ gw, w.before [.ref mo, .int p0, .int p1, .int p2].toArray s = true := fun w h => hts w (List.mem_cons_of_mem _ h)
  have hown : s.vm.findClass RX11 = some m.cls := findClass_of_methodNamed B.named
  have hlocks := B.notSynchronized
  subst hsz
  have hD := hD0.self (sz := s.heap.size)
  generalize hAe : va_A [(mo, .inr (11, fmo)), (ms, .inl (y 1, 765, .inl fms))] s.heap.size = A at hD ⊢
  have hA : ∀ q : Nat, s.heap.size ≤ q → A q := fun q h => by rw [← hAe]; exact Or.inr h
  have hS : va_S A s.heap s.heap [] := va_S.rf
  have hP : va_P D vwCl [(mo, .inr (11, fmo)), (ms, .inl (y 1, 765, .inl fms))] s.heap := hP
  have hl := lv_entry ([.ref mo, .int p0, .int p1, .int p2]) (n := 4) (Nat.le_of_ble_eq_true rfl)
  rw [lg_entry_eq]
  generalize (lg_sl ([.ref mo, .int p0, .int p1, .int p2]) ++ List.replicate (4 - (lg_sl ([.ref mo, .int p0, .int p1, .int p2])).length) Slot.unset).toArray = ls at hl ⊢
  have hl : lv_has ls 4 [(0, .ref mo), (1, .int p0), (2, .int p1), (3, .int p2)] := hl
  refine lv_aload_n hx hb dX11_why_0 rfl (lv_at hl 0 rfl) ?_
  refine lv_iconst (v := 0) hx hb dX11_why_1 (by decide) ?_
  refine va_put (D := D) (ci := 11) (v := .int 0) (ty := .int) (C := RX11) (T := TX11) (N := 65) hx hb hg inGX11 tyX11 tyX11_ok nmX11 hown hK hP hD hS 0 rfl rfl 0 (by decide) (hg _ q_6_126) (fun _ h9 => h9) rfl (by decide +kernel) rfl rfl (px_len hmo_0) dX11_why_2 (fun H locs hP hD hS => ?_)
  have hP : va_P D vwCl [(mo, .inr (11, (fmo.set 0 (.int 0)))), (ms, .inl (y 1, 765, .inl fms))] H := hP
  have hD : va_D A [(mo, .inr (11, (fmo.set 0 (.int 0)))), (ms, .inl (y 1, 765, .inl fms))] := hD
  refine lv_aload_n hx hb dX11_why_5 rfl (lv_at hl 0 rfl) ?_
  refine lv_iload_n hx hb dX11_why_6 rfl (lv_at hl 1 rfl) ?_
  refine lv_iload_n hx hb dX11_why_7 rfl (lv_at hl 2 rfl) ?_
  refine lv_iload_n hx hb dX11_why_8 rfl (lv_at hl 3 rfl) ?_
  have hPc_1 := hP.sub (ws' := [(mo, .inr (11, (fmo.set 0 (.int 0)))), (ms, .inl (y 1, 765, .inl fms))]) [0, 1] rfl
  have hDc_1 := hD.sub (ws' := [(mo, .inr (11, (fmo.set 0 (.int 0)))), (ms, .inl (y 1, 765, .inl fms))]) [0, 1] (by decide) rfl
  refine vp_callSi (va_Run.run (va_runV (As := [.int p0, .int p1, .int p2]) (rest := []) ⟨hx, hb, hml, hown, hg⟩ (c_X11_areAsked l D y H.size mo (fmo.set 0 (.int 0)) ms fms p0 p1 p2 (px_sn (by decide) hmo_6) hms_e1) (cwV 3 hg (px_gV q_7_235 q_7_237 q_p_86 q_1_15 q_7_238) rfl rfl rfl (by decide +kernel) ⟨Nat.le_of_ble_eq_true rfl, Nat.le_of_ble_eq_true rfl⟩) (px_preV hK hPc_1 hDc_1 (ci := 11) (q0 := 0) rfl rfl) rfl rfl hl.1 rfl (lv_room (Nat.le_of_ble_eq_true rfl)) dX11_why_9 ⟨Nat.le_of_ble_eq_true rfl, Nat.le_of_ble_eq_true rfl⟩)) (fun r_1 hw_1 => ?_)
  obtain rfl : r_1 = 0 := hw_1
  refine lv_if_eq (tgt := 25) hx hb dX11_why_12 (by decide) (fun _ => ?_) (fun c_2 => absurd c_2 (by decide))
  refine lv_iconst (v := (-1)) hx hb dX11_why_25 (by decide) ?_
  exact W.iret (v := (-1)) hx hb hr (fun t ht hW => ⟨⟨_, (), rfl, rfl, trivial⟩, by subst hAe; exact hS.F ht⟩) (fun q h => by subst hAe; exact hS.2.2 q h) dX11_why_26

set_option maxHeartbeats 4000000 in
set_option maxRecDepth 100000 in
theorem c_X11_ask (l : Launch) (D : va_G) (y : Nat → ClassId) (sz : Nat) (mo : Nat) (fmo : List Value) (ms : Nat) (fms : Nat → Int32) (p0 : Int32) (p1 : Int32) (p2 : Int32) (p3 : Int32) (hmo_0 : fmo[0]? = some (.int 0)) (hmo_6 : fmo[6]? = some (.ref ms)) (hms_e1 : fms 1 = 0) : Met l yX11_ask (px_w yX11_ask cX11_ask 6 (some .int)) ({ frames := 3, cells := 0, slots := 0, locals := 66 }) (va_Pc [.ref mo, .int p0, .int p1, .int p2, .int p3] (px_P D y sz [(mo, .inr (11, fmo)), (ms, .inl (y 1, 765, .inl fms))])) (va_Qi (fun (r : Int32) (u : Unit) => r = (-1)) (fun (u : Unit) t => True) (va_A [(mo, .inr (11, fmo)), (ms, .inl (y 1, 765, .inl fms))] sz)) 0 0 (va_A [(mo, .inr (11, fmo)), (ms, .inl (y 1, 765, .inl fms))] sz) := by
  refine Met.ofW (cc := cX11_ask) (maxL := 6) (ret := (some .int)) (by decide) rfl ?_
  intro p e s m args below meth c s₁ B hml hv
  obtain ⟨rfl, hsz, hP, hK, hD0⟩ := hv
  have hx := B.exec
  have hb := B.bytes
  have hr := B.returns
  have hts := atoms_spec (ws := px_w yX11_ask cX11_ask 6 (some .int)) B.pre
  have hg : ∀ w ∈ gw, w.before [.ref mo, .int p0, .int p1, .int p2, .int p3].toArray s = true := fun w h => hts w (List.mem_cons_of_mem _ h)
  have hown : s.vm.findClass RX11 = some m.cls := findClass_of_methodNamed B.named
  have hlocks := B.notSynchronized
  subst hsz
  have hD := hD0.self (sz := s.heap.size)
  generalize hAe : va_A [(mo, .inr (11, fmo)), (ms, .inl (y 1, 765, .inl fms))] s.heap.size = A at hD ⊢
  have hA : ∀ q : Nat, s.heap.size ≤ q → A q := fun q h => by rw [← hAe]; exact Or.inr h
  have hS : va_S A s.heap s.heap [] := va_S.rf
  have hP : va_P D vwCl [(mo, .inr (11, fmo)), (ms, .inl (y 1, 765, .inl fms))] s.heap := hP
  have hl := lv_entry ([.ref mo, .int p0, .int p1, .int p2, .int p3]) (n := 6) (Nat.le_of_ble_eq_true rfl)
  rw [lg_entry_eq]
  generalize (lg_sl ([.ref mo, .int p0, .int p1, .int p2, .int p3]) ++ List.replicate (6 - (lg_sl ([.ref mo, .int p0, .int p1, .int p2, .int p3])).length) Slot.unset).toArray = ls at hl ⊢
  have hl : lv_has ls 6 [(0, .ref mo), (1, .int p0), (2, .int p1), (3, .int p2), (4, .int p3)] := hl
  refine lv_aload_n hx hb dX11_ask_0 rfl (lv_at hl 0 rfl) ?_
  refine lv_iconst (v := 0) hx hb dX11_ask_1 (by decide) ?_
  refine va_put (D := D) (ci := 11) (v := .int 0) (ty := .int) (C := RX11) (T := TX11) (N := 65) hx hb hg inGX11 tyX11 tyX11_ok nmX11 hown hK hP hD hS 0 rfl rfl 0 (by decide) (hg _ q_6_126) (fun _ h9 => h9) rfl (by decide +kernel) rfl rfl (px_len hmo_0) dX11_ask_2 (fun H locs hP hD hS => ?_)
  have hP : va_P D vwCl [(mo, .inr (11, (fmo.set 0 (.int 0)))), (ms, .inl (y 1, 765, .inl fms))] H := hP
  have hD : va_D A [(mo, .inr (11, (fmo.set 0 (.int 0)))), (ms, .inl (y 1, 765, .inl fms))] := hD
  refine lv_aload_n hx hb dX11_ask_5 rfl (lv_at hl 0 rfl) ?_
  refine lv_iload_n hx hb dX11_ask_6 rfl (lv_at hl 1 rfl) ?_
  refine lv_iload_n hx hb dX11_ask_7 rfl (lv_at hl 2 rfl) ?_
  refine lv_iload_n hx hb dX11_ask_8 rfl (lv_at hl 3 rfl) ?_
  have hPc_1 := hP.sub (ws' := [(mo, .inr (11, (fmo.set 0 (.int 0)))), (ms, .inl (y 1, 765, .inl fms))]) [0, 1] rfl
  have hDc_1 := hD.sub (ws' := [(mo, .inr (11, (fmo.set 0 (.int 0)))), (ms, .inl (y 1, 765, .inl fms))]) [0, 1] (by decide) rfl
  refine vp_callSi (va_Run.run (va_runV (As := [.int p0, .int p1, .int p2]) (rest := []) ⟨hx, hb, hml, hown, hg⟩ (c_X11_areAsked l D y H.size mo (fmo.set 0 (.int 0)) ms fms p0 p1 p2 (px_sn (by decide) hmo_6) hms_e1) (cwV 3 hg (px_gV q_7_235 q_7_237 q_p_86 q_1_15 q_7_238) rfl rfl rfl (by decide +kernel) ⟨Nat.le_of_ble_eq_true rfl, Nat.le_of_ble_eq_true rfl⟩) (px_preV hK hPc_1 hDc_1 (ci := 11) (q0 := 0) rfl rfl) rfl rfl hl.1 rfl (lv_room (Nat.le_of_ble_eq_true rfl)) dX11_ask_9 ⟨Nat.le_of_ble_eq_true rfl, Nat.le_of_ble_eq_true rfl⟩)) (fun r_1 hw_1 => ?_)
  obtain rfl : r_1 = 0 := hw_1
  refine lv_if_eq (tgt := 25) hx hb dX11_ask_12 (by decide) (fun _ => ?_) (fun c_2 => absurd c_2 (by decide))
  refine lv_iconst (v := (-1)) hx hb dX11_ask_25 (by decide) ?_
  exact W.iret (v := (-1)) hx hb hr (fun t ht hW => ⟨⟨_, (), rfl, rfl, trivial⟩, by subst hAe; exact hS.F ht⟩) (fun q h => by subst hAe; exact hS.2.2 q h) dX11_ask_26

set_option maxHeartbeats 4000000 in
set_option maxRecDepth 100000 in
theorem c_X11_undo (l : Launch) (D : va_G) (y : Nat → ClassId) (sz : Nat) (mo : Nat) (fmo : List Value) (hmo_0 : fmo[0]? = some (.int 0)) (hmo_27 : fmo[27]? = some (.int 0)) : Met l yX11_undo (px_w yX11_undo cX11_undo 2 (some .int)) ({ frames := 0, cells := 0, slots := 0, locals := 0 }) (va_Pc [.ref mo] (px_P D y sz [(mo, .inr (11, fmo))])) (va_Qi (fun (r : Int32) (u : Unit) => r = (-1)) (fun (u : Unit) t => True) (va_A [(mo, .inr (11, fmo))] sz)) 0 0 (va_A [(mo, .inr (11, fmo))] sz) := by
  refine Met.ofW (cc := cX11_undo) (maxL := 2) (ret := (some .int)) (by decide) rfl ?_
  intro p e s m args below meth c s₁ B hml hv
  obtain ⟨rfl, hsz, hP, hK, hD0⟩ := hv
  have hx := B.exec
  have hb := B.bytes
  have hr := B.returns
  have hts := atoms_spec (ws := px_w yX11_undo cX11_undo 2 (some .int)) B.pre
  have hg : ∀ w ∈ gw, w.before [.ref mo].toArray s = true := fun w h => hts w (List.mem_cons_of_mem _ h)
  have hown : s.vm.findClass RX11 = some m.cls := findClass_of_methodNamed B.named
  have hlocks := B.notSynchronized
  subst hsz
  have hD := hD0.self (sz := s.heap.size)
  generalize hAe : va_A [(mo, .inr (11, fmo))] s.heap.size = A at hD ⊢
  have hA : ∀ q : Nat, s.heap.size ≤ q → A q := fun q h => by rw [← hAe]; exact Or.inr h
  have hS : va_S A s.heap s.heap [] := va_S.rf
  have hP : va_P D vwCl [(mo, .inr (11, fmo))] s.heap := hP
  have hl := lv_entry ([.ref mo]) (n := 2) (Nat.le_of_ble_eq_true rfl)
  rw [lg_entry_eq]
  generalize (lg_sl ([.ref mo]) ++ List.replicate (2 - (lg_sl ([.ref mo])).length) Slot.unset).toArray = ls at hl ⊢
  have hl : lv_has ls 2 [(0, .ref mo)] := hl
  refine lv_aload_n hx hb dX11_undo_0 rfl (lv_at hl 0 rfl) ?_
  refine lv_iconst (v := 0) hx hb dX11_undo_1 (by decide) ?_
  refine va_put (D := D) (ci := 11) (v := .int 0) (ty := .int) (C := RX11) (T := TX11) (N := 65) hx hb hg inGX11 tyX11 tyX11_ok nmX11 hown hK hP hD hS 0 rfl rfl 0 (by decide) (hg _ q_6_126) (fun _ h9 => h9) rfl (by decide +kernel) rfl rfl (px_len hmo_0) dX11_undo_2 (fun H locs hP hD hS => ?_)
  have hP : va_P D vwCl [(mo, .inr (11, (fmo.set 0 (.int 0))))] H := hP
  have hD : va_D A [(mo, .inr (11, (fmo.set 0 (.int 0))))] := hD
  refine lv_aload_n hx hb dX11_undo_5 rfl (lv_at hl 0 rfl) ?_
  refine va_get (D := D) (ci := 11) (v := .int 0) (C := RX11) (T := TX11) (N := 65) hx hb hg inGX11 hown hK hP 0 rfl rfl 27 (by decide) (hg _ q_6_153) (fun _ h9 => h9) (px_sn (by decide) hmo_27) dX11_undo_6 ?_
  refine lv_if_ne (tgt := 14) hx hb dX11_undo_9 (by decide) (fun c_1 => absurd c_1 (by decide)) (fun _ => ?_)
  refine lv_iconst (v := (-1)) hx hb dX11_undo_12 (by decide) ?_
  exact W.iret (v := (-1)) hx hb hr (fun t ht hW => ⟨⟨_, (), rfl, rfl, trivial⟩, by subst hAe; exact hS.F ht⟩) (fun q h => by subst hAe; exact hS.2.2 q h) dX11_undo_13

set_option maxHeartbeats 4000000 in
set_option maxRecDepth 100000 in
theorem c_X11_known (l : Launch) (D : va_G) (y : Nat → ClassId) (sz : Nat) (mo : Nat) (fmo : List Value) (ms : Nat) (fms : Nat → Int32) (p0 : Int32) (p1 : Int32) (hmo_0 : fmo[0]? = some (.int 0)) (hmo_6 : fmo[6]? = some (.ref ms)) (hms_e1 : fms 1 = 0) : Met l yX11_known (px_w yX11_known cX11_known 3 (some .int)) ({ frames := 2, cells := 0, slots := 0, locals := 43 }) (va_Pc [.ref mo, .int p0, .int p1] (px_P D y sz [(mo, .inr (11, fmo)), (ms, .inl (y 1, 765, .inl fms))])) (va_Qi (fun (r : Int32) (u : Unit) => r = (-1)) (fun (u : Unit) t => True) (va_A [(mo, .inr (11, fmo)), (ms, .inl (y 1, 765, .inl fms))] sz)) 0 0 (va_A [(mo, .inr (11, fmo)), (ms, .inl (y 1, 765, .inl fms))] sz) := by
  refine Met.ofW (cc := cX11_known) (maxL := 3) (ret := (some .int)) (by decide) rfl ?_
  intro p e s m args below meth c s₁ B hml hv
  obtain ⟨rfl, hsz, hP, hK, hD0⟩ := hv
  have hx := B.exec
  have hb := B.bytes
  have hr := B.returns
  have hts := atoms_spec (ws := px_w yX11_known cX11_known 3 (some .int)) B.pre
  have hg : ∀ w ∈ gw, w.before [.ref mo, .int p0, .int p1].toArray s = true := fun w h => hts w (List.mem_cons_of_mem _ h)
  have hown : s.vm.findClass RX11 = some m.cls := findClass_of_methodNamed B.named
  have hlocks := B.notSynchronized
  subst hsz
  have hD := hD0.self (sz := s.heap.size)
  generalize hAe : va_A [(mo, .inr (11, fmo)), (ms, .inl (y 1, 765, .inl fms))] s.heap.size = A at hD ⊢
  have hA : ∀ q : Nat, s.heap.size ≤ q → A q := fun q h => by rw [← hAe]; exact Or.inr h
  have hS : va_S A s.heap s.heap [] := va_S.rf
  have hP : va_P D vwCl [(mo, .inr (11, fmo)), (ms, .inl (y 1, 765, .inl fms))] s.heap := hP
  have hl := lv_entry ([.ref mo, .int p0, .int p1]) (n := 3) (Nat.le_of_ble_eq_true rfl)
  rw [lg_entry_eq]
  generalize (lg_sl ([.ref mo, .int p0, .int p1]) ++ List.replicate (3 - (lg_sl ([.ref mo, .int p0, .int p1])).length) Slot.unset).toArray = ls at hl ⊢
  have hl : lv_has ls 3 [(0, .ref mo), (1, .int p0), (2, .int p1)] := hl
  refine lv_aload_n hx hb dX11_known_0 rfl (lv_at hl 0 rfl) ?_
  refine lv_iconst (v := 0) hx hb dX11_known_1 (by decide) ?_
  refine va_put (D := D) (ci := 11) (v := .int 0) (ty := .int) (C := RX11) (T := TX11) (N := 65) hx hb hg inGX11 tyX11 tyX11_ok nmX11 hown hK hP hD hS 0 rfl rfl 0 (by decide) (hg _ q_6_126) (fun _ h9 => h9) rfl (by decide +kernel) rfl rfl (px_len hmo_0) dX11_known_2 (fun H locs hP hD hS => ?_)
  have hP : va_P D vwCl [(mo, .inr (11, (fmo.set 0 (.int 0)))), (ms, .inl (y 1, 765, .inl fms))] H := hP
  have hD : va_D A [(mo, .inr (11, (fmo.set 0 (.int 0)))), (ms, .inl (y 1, 765, .inl fms))] := hD
  refine lv_aload_n hx hb dX11_known_5 rfl (lv_at hl 0 rfl) ?_
  refine lv_iload_n hx hb dX11_known_6 rfl (lv_at hl 1 rfl) ?_
  have hPc_1 := hP.sub (ws' := [(mo, .inr (11, (fmo.set 0 (.int 0)))), (ms, .inl (y 1, 765, .inl fms))]) [0, 1] rfl
  have hDc_1 := hD.sub (ws' := [(mo, .inr (11, (fmo.set 0 (.int 0)))), (ms, .inl (y 1, 765, .inl fms))]) [0, 1] (by decide) rfl
  refine vp_callSi (va_Run.run (va_runV (As := [.int p0]) (rest := []) ⟨hx, hb, hml, hown, hg⟩ (c_X11_isPerson l D y H.size mo (fmo.set 0 (.int 0)) ms fms p0 (px_sn (by decide) hmo_6) hms_e1) (cwV 1 hg (px_gV q_7_195 q_7_197 q_p_81 q_1_15 q_7_198) rfl rfl rfl (by decide +kernel) ⟨Nat.le_of_ble_eq_true rfl, Nat.le_of_ble_eq_true rfl⟩) (px_preV hK hPc_1 hDc_1 (ci := 11) (q0 := 0) rfl rfl) rfl rfl hl.1 rfl (lv_room (Nat.le_of_ble_eq_true rfl)) dX11_known_7 ⟨Nat.le_of_ble_eq_true rfl, Nat.le_of_ble_eq_true rfl⟩)) (fun r_1 hw_1 => ?_)
  obtain rfl : r_1 = 0 := hw_1
  refine lv_if_eq (tgt := 39) hx hb dX11_known_10 (by decide) (fun _ => ?_) (fun c_2 => absurd c_2 (by decide))
  refine lv_iconst (v := (-1)) hx hb dX11_known_39 (by decide) ?_
  exact W.iret (v := (-1)) hx hb hr (fun t ht hW => ⟨⟨_, (), rfl, rfl, trivial⟩, by subst hAe; exact hS.F ht⟩) (fun q h => by subst hAe; exact hS.2.2 q h) dX11_known_40

set_option maxHeartbeats 4000000 in
set_option maxRecDepth 100000 in
theorem c_X11_can (l : Launch) (D : va_G) (y : Nat → ClassId) (sz : Nat) (mo : Nat) (fmo : List Value) (ms : Nat) (fms : Nat → Int32) (p0 : Int32) (p1 : Int32) (hmo_0 : fmo[0]? = some (.int 0)) (hmo_6 : fmo[6]? = some (.ref ms)) (hms_e1 : fms 1 = 0) : Met l yX11_can (px_w yX11_can cX11_can 5 (some .int)) ({ frames := 2, cells := 0, slots := 0, locals := 43 }) (va_Pc [.ref mo, .int p0, .int p1] (px_P D y sz [(mo, .inr (11, fmo)), (ms, .inl (y 1, 765, .inl fms))])) (va_Qi (fun (r : Int32) (u : Unit) => r = (-1)) (fun (u : Unit) t => True) (va_A [(mo, .inr (11, fmo)), (ms, .inl (y 1, 765, .inl fms))] sz)) 0 0 (va_A [(mo, .inr (11, fmo)), (ms, .inl (y 1, 765, .inl fms))] sz) := by
  refine Met.ofW (cc := cX11_can) (maxL := 5) (ret := (some .int)) (by decide) rfl ?_
  intro p e s m args below meth c s₁ B hml hv
  obtain ⟨rfl, hsz, hP, hK, hD0⟩ := hv
  have hx := B.exec
  have hb := B.bytes
  have hr := B.returns
  have hts := atoms_spec (ws := px_w yX11_can cX11_can 5 (some .int)) B.pre
  have hg : ∀ w ∈ gw, w.before [.ref mo, .int p0, .int p1].toArray s = true := fun w h => hts w (List.mem_cons_of_mem _ h)
  have hown : s.vm.findClass RX11 = some m.cls := findClass_of_methodNamed B.named
  have hlocks := B.notSynchronized
  subst hsz
  have hD := hD0.self (sz := s.heap.size)
  generalize hAe : va_A [(mo, .inr (11, fmo)), (ms, .inl (y 1, 765, .inl fms))] s.heap.size = A at hD ⊢
  have hA : ∀ q : Nat, s.heap.size ≤ q → A q := fun q h => by rw [← hAe]; exact Or.inr h
  have hS : va_S A s.heap s.heap [] := va_S.rf
  have hP : va_P D vwCl [(mo, .inr (11, fmo)), (ms, .inl (y 1, 765, .inl fms))] s.heap := hP
  have hl := lv_entry ([.ref mo, .int p0, .int p1]) (n := 5) (Nat.le_of_ble_eq_true rfl)
  rw [lg_entry_eq]
  generalize (lg_sl ([.ref mo, .int p0, .int p1]) ++ List.replicate (5 - (lg_sl ([.ref mo, .int p0, .int p1])).length) Slot.unset).toArray = ls at hl ⊢
  have hl : lv_has ls 5 [(0, .ref mo), (1, .int p0), (2, .int p1)] := hl
  refine lv_aload_n hx hb dX11_can_0 rfl (lv_at hl 0 rfl) ?_
  refine lv_iconst (v := 0) hx hb dX11_can_1 (by decide) ?_
  refine va_put (D := D) (ci := 11) (v := .int 0) (ty := .int) (C := RX11) (T := TX11) (N := 65) hx hb hg inGX11 tyX11 tyX11_ok nmX11 hown hK hP hD hS 0 rfl rfl 0 (by decide) (hg _ q_6_126) (fun _ h9 => h9) rfl (by decide +kernel) rfl rfl (px_len hmo_0) dX11_can_2 (fun H locs hP hD hS => ?_)
  have hP : va_P D vwCl [(mo, .inr (11, (fmo.set 0 (.int 0)))), (ms, .inl (y 1, 765, .inl fms))] H := hP
  have hD : va_D A [(mo, .inr (11, (fmo.set 0 (.int 0)))), (ms, .inl (y 1, 765, .inl fms))] := hD
  refine lv_aload_n hx hb dX11_can_5 rfl (lv_at hl 0 rfl) ?_
  refine lv_iload_n hx hb dX11_can_6 rfl (lv_at hl 1 rfl) ?_
  have hPc_1 := hP.sub (ws' := [(mo, .inr (11, (fmo.set 0 (.int 0)))), (ms, .inl (y 1, 765, .inl fms))]) [0, 1] rfl
  have hDc_1 := hD.sub (ws' := [(mo, .inr (11, (fmo.set 0 (.int 0)))), (ms, .inl (y 1, 765, .inl fms))]) [0, 1] (by decide) rfl
  refine vp_callSi (va_Run.run (va_runV (As := [.int p0]) (rest := []) ⟨hx, hb, hml, hown, hg⟩ (c_X11_isPerson l D y H.size mo (fmo.set 0 (.int 0)) ms fms p0 (px_sn (by decide) hmo_6) hms_e1) (cwV 1 hg (px_gV q_7_195 q_7_197 q_p_81 q_1_15 q_7_198) rfl rfl rfl (by decide +kernel) ⟨Nat.le_of_ble_eq_true rfl, Nat.le_of_ble_eq_true rfl⟩) (px_preV hK hPc_1 hDc_1 (ci := 11) (q0 := 0) rfl rfl) rfl rfl hl.1 rfl (lv_room (Nat.le_of_ble_eq_true rfl)) dX11_can_7 ⟨Nat.le_of_ble_eq_true rfl, Nat.le_of_ble_eq_true rfl⟩)) (fun r_1 hw_1 => ?_)
  obtain rfl : r_1 = 0 := hw_1
  refine lv_if_eq (tgt := 21) hx hb dX11_can_10 (by decide) (fun _ => ?_) (fun c_2 => absurd c_2 (by decide))
  refine lv_iconst (v := (-1)) hx hb dX11_can_21 (by decide) ?_
  exact W.iret (v := (-1)) hx hb hr (fun t ht hW => ⟨⟨_, (), rfl, rfl, trivial⟩, by subst hAe; exact hS.F ht⟩) (fun q h => by subst hAe; exact hS.2.2 q h) dX11_can_22

set_option maxHeartbeats 4000000 in
set_option maxRecDepth 100000 in
theorem c_X11_whom (l : Launch) (D : va_G) (y : Nat → ClassId) (sz : Nat) (mo : Nat) (fmo : List Value) (ms : Nat) (fms : Nat → Int32) (p0 : Int32) (hmo_0 : fmo[0]? = some (.int 0)) (hmo_6 : fmo[6]? = some (.ref ms)) (hms_e1 : fms 1 = 0) : Met l yX11_whom (px_w yX11_whom cX11_whom 11 (some .int)) ({ frames := 2, cells := 0, slots := 0, locals := 43 }) (va_Pc [.ref mo, .int p0] (px_P D y sz [(mo, .inr (11, fmo)), (ms, .inl (y 1, 765, .inl fms))])) (va_Qi (fun (r : Int32) (u : Unit) => r = (-1)) (fun (u : Unit) t => True) (va_A [(mo, .inr (11, fmo)), (ms, .inl (y 1, 765, .inl fms))] sz)) 0 0 (va_A [(mo, .inr (11, fmo)), (ms, .inl (y 1, 765, .inl fms))] sz) := by
  refine Met.ofW (cc := cX11_whom) (maxL := 11) (ret := (some .int)) (by decide) rfl ?_
  intro p e s m args below meth c s₁ B hml hv
  obtain ⟨rfl, hsz, hP, hK, hD0⟩ := hv
  have hx := B.exec
  have hb := B.bytes
  have hr := B.returns
  have hts := atoms_spec (ws := px_w yX11_whom cX11_whom 11 (some .int)) B.pre
  have hg : ∀ w ∈ gw, w.before [.ref mo, .int p0].toArray s = true := fun w h => hts w (List.mem_cons_of_mem _ h)
  have hown : s.vm.findClass RX11 = some m.cls := findClass_of_methodNamed B.named
  have hlocks := B.notSynchronized
  subst hsz
  have hD := hD0.self (sz := s.heap.size)
  generalize hAe : va_A [(mo, .inr (11, fmo)), (ms, .inl (y 1, 765, .inl fms))] s.heap.size = A at hD ⊢
  have hA : ∀ q : Nat, s.heap.size ≤ q → A q := fun q h => by rw [← hAe]; exact Or.inr h
  have hS : va_S A s.heap s.heap [] := va_S.rf
  have hP : va_P D vwCl [(mo, .inr (11, fmo)), (ms, .inl (y 1, 765, .inl fms))] s.heap := hP
  have hl := lv_entry ([.ref mo, .int p0]) (n := 11) (Nat.le_of_ble_eq_true rfl)
  rw [lg_entry_eq]
  generalize (lg_sl ([.ref mo, .int p0]) ++ List.replicate (11 - (lg_sl ([.ref mo, .int p0])).length) Slot.unset).toArray = ls at hl ⊢
  have hl : lv_has ls 11 [(0, .ref mo), (1, .int p0)] := hl
  refine lv_aload_n hx hb dX11_whom_0 rfl (lv_at hl 0 rfl) ?_
  refine lv_iconst (v := 0) hx hb dX11_whom_1 (by decide) ?_
  refine va_put (D := D) (ci := 11) (v := .int 0) (ty := .int) (C := RX11) (T := TX11) (N := 65) hx hb hg inGX11 tyX11 tyX11_ok nmX11 hown hK hP hD hS 0 rfl rfl 0 (by decide) (hg _ q_6_126) (fun _ h9 => h9) rfl (by decide +kernel) rfl rfl (px_len hmo_0) dX11_whom_2 (fun H locs hP hD hS => ?_)
  have hP : va_P D vwCl [(mo, .inr (11, (fmo.set 0 (.int 0)))), (ms, .inl (y 1, 765, .inl fms))] H := hP
  have hD : va_D A [(mo, .inr (11, (fmo.set 0 (.int 0)))), (ms, .inl (y 1, 765, .inl fms))] := hD
  refine lv_aload_n hx hb dX11_whom_5 rfl (lv_at hl 0 rfl) ?_
  refine lv_iload_n hx hb dX11_whom_6 rfl (lv_at hl 1 rfl) ?_
  have hPc_1 := hP.sub (ws' := [(mo, .inr (11, (fmo.set 0 (.int 0)))), (ms, .inl (y 1, 765, .inl fms))]) [0, 1] rfl
  have hDc_1 := hD.sub (ws' := [(mo, .inr (11, (fmo.set 0 (.int 0)))), (ms, .inl (y 1, 765, .inl fms))]) [0, 1] (by decide) rfl
  refine vp_callSi (va_Run.run (va_runV (As := [.int p0]) (rest := []) ⟨hx, hb, hml, hown, hg⟩ (c_X11_isPerson l D y H.size mo (fmo.set 0 (.int 0)) ms fms p0 (px_sn (by decide) hmo_6) hms_e1) (cwV 1 hg (px_gV q_7_195 q_7_197 q_p_81 q_1_15 q_7_198) rfl rfl rfl (by decide +kernel) ⟨Nat.le_of_ble_eq_true rfl, Nat.le_of_ble_eq_true rfl⟩) (px_preV hK hPc_1 hDc_1 (ci := 11) (q0 := 0) rfl rfl) rfl rfl hl.1 rfl (lv_room (Nat.le_of_ble_eq_true rfl)) dX11_whom_7 ⟨Nat.le_of_ble_eq_true rfl, Nat.le_of_ble_eq_true rfl⟩)) (fun r_1 hw_1 => ?_)
  obtain rfl : r_1 = 0 := hw_1
  refine lv_if_eq (tgt := 29) hx hb dX11_whom_10 (by decide) (fun _ => ?_) (fun c_2 => absurd c_2 (by decide))
  refine lv_iconst (v := (-1)) hx hb dX11_whom_29 (by decide) ?_
  exact W.iret (v := (-1)) hx hb hr (fun t ht hW => ⟨⟨_, (), rfl, rfl, trivial⟩, by subst hAe; exact hS.F ht⟩) (fun q h => by subst hAe; exact hS.2.2 q h) dX11_whom_30

set_option maxHeartbeats 4000000 in
set_option maxRecDepth 100000 in
theorem c_X11_sweep (l : Launch) (D : va_G) (y : Nat → ClassId) (sz : Nat) (mo : Nat) (fmo : List Value) (ms : Nat) (fms : Nat → Int32) (p0 : Int32) (hmo_0 : fmo[0]? = some (.int 0)) (hmo_6 : fmo[6]? = some (.ref ms)) (hms_e1 : fms 1 = 0) : Met l yX11_sweep (px_w yX11_sweep cX11_sweep 4 (some .int)) ({ frames := 2, cells := 0, slots := 0, locals := 43 }) (va_Pc [.ref mo, .int p0] (px_P D y sz [(mo, .inr (11, fmo)), (ms, .inl (y 1, 765, .inl fms))])) (va_Qi (fun (r : Int32) (u : Unit) => r = (-1)) (fun (u : Unit) t => True) (va_A [(mo, .inr (11, fmo)), (ms, .inl (y 1, 765, .inl fms))] sz)) 0 0 (va_A [(mo, .inr (11, fmo)), (ms, .inl (y 1, 765, .inl fms))] sz) := by
  refine Met.ofW (cc := cX11_sweep) (maxL := 4) (ret := (some .int)) (by decide) rfl ?_
  intro p e s m args below meth c s₁ B hml hv
  obtain ⟨rfl, hsz, hP, hK, hD0⟩ := hv
  have hx := B.exec
  have hb := B.bytes
  have hr := B.returns
  have hts := atoms_spec (ws := px_w yX11_sweep cX11_sweep 4 (some .int)) B.pre
  have hg : ∀ w ∈ gw, w.before [.ref mo, .int p0].toArray s = true := fun w h => hts w (List.mem_cons_of_mem _ h)
  have hown : s.vm.findClass RX11 = some m.cls := findClass_of_methodNamed B.named
  have hlocks := B.notSynchronized
  subst hsz
  have hD := hD0.self (sz := s.heap.size)
  generalize hAe : va_A [(mo, .inr (11, fmo)), (ms, .inl (y 1, 765, .inl fms))] s.heap.size = A at hD ⊢
  have hA : ∀ q : Nat, s.heap.size ≤ q → A q := fun q h => by rw [← hAe]; exact Or.inr h
  have hS : va_S A s.heap s.heap [] := va_S.rf
  have hP : va_P D vwCl [(mo, .inr (11, fmo)), (ms, .inl (y 1, 765, .inl fms))] s.heap := hP
  have hl := lv_entry ([.ref mo, .int p0]) (n := 4) (Nat.le_of_ble_eq_true rfl)
  rw [lg_entry_eq]
  generalize (lg_sl ([.ref mo, .int p0]) ++ List.replicate (4 - (lg_sl ([.ref mo, .int p0])).length) Slot.unset).toArray = ls at hl ⊢
  have hl : lv_has ls 4 [(0, .ref mo), (1, .int p0)] := hl
  refine lv_aload_n hx hb dX11_sweep_0 rfl (lv_at hl 0 rfl) ?_
  refine lv_iconst (v := 0) hx hb dX11_sweep_1 (by decide) ?_
  refine va_put (D := D) (ci := 11) (v := .int 0) (ty := .int) (C := RX11) (T := TX11) (N := 65) hx hb hg inGX11 tyX11 tyX11_ok nmX11 hown hK hP hD hS 0 rfl rfl 0 (by decide) (hg _ q_6_126) (fun _ h9 => h9) rfl (by decide +kernel) rfl rfl (px_len hmo_0) dX11_sweep_2 (fun H locs hP hD hS => ?_)
  have hP : va_P D vwCl [(mo, .inr (11, (fmo.set 0 (.int 0)))), (ms, .inl (y 1, 765, .inl fms))] H := hP
  have hD : va_D A [(mo, .inr (11, (fmo.set 0 (.int 0)))), (ms, .inl (y 1, 765, .inl fms))] := hD
  refine lv_aload_n hx hb dX11_sweep_5 rfl (lv_at hl 0 rfl) ?_
  refine lv_iload_n hx hb dX11_sweep_6 rfl (lv_at hl 1 rfl) ?_
  have hPc_1 := hP.sub (ws' := [(mo, .inr (11, (fmo.set 0 (.int 0)))), (ms, .inl (y 1, 765, .inl fms))]) [0, 1] rfl
  have hDc_1 := hD.sub (ws' := [(mo, .inr (11, (fmo.set 0 (.int 0)))), (ms, .inl (y 1, 765, .inl fms))]) [0, 1] (by decide) rfl
  refine vp_callSi (va_Run.run (va_runV (As := [.int p0]) (rest := []) ⟨hx, hb, hml, hown, hg⟩ (c_X11_isPerson l D y H.size mo (fmo.set 0 (.int 0)) ms fms p0 (px_sn (by decide) hmo_6) hms_e1) (cwV 1 hg (px_gV q_7_195 q_7_197 q_p_81 q_1_15 q_7_198) rfl rfl rfl (by decide +kernel) ⟨Nat.le_of_ble_eq_true rfl, Nat.le_of_ble_eq_true rfl⟩) (px_preV hK hPc_1 hDc_1 (ci := 11) (q0 := 0) rfl rfl) rfl rfl hl.1 rfl (lv_room (Nat.le_of_ble_eq_true rfl)) dX11_sweep_7 ⟨Nat.le_of_ble_eq_true rfl, Nat.le_of_ble_eq_true rfl⟩)) (fun r_1 hw_1 => ?_)
  obtain rfl : r_1 = 0 := hw_1
  refine lv_if_ne (tgt := 15) hx hb dX11_sweep_10 (by decide) (fun c_2 => absurd c_2 (by decide)) (fun _ => ?_)
  refine lv_iconst (v := (-1)) hx hb dX11_sweep_13 (by decide) ?_
  exact W.iret (v := (-1)) hx hb hr (fun t ht hW => ⟨⟨_, (), rfl, rfl, trivial⟩, by subst hAe; exact hS.F ht⟩) (fun q h => by subst hAe; exact hS.2.2 q h) dX11_sweep_14

set_option maxHeartbeats 4000000 in
set_option maxRecDepth 100000 in
theorem c_X11_swept (l : Launch) (D : va_G) (y : Nat → ClassId) (sz : Nat) (mo : Nat) (fmo : List Value) (p0 : Int32) (hmo_0 : fmo[0]? = some (.int 0)) (hmo_37 : fmo[37]? = some (.int 0)) : Met l yX11_swept (px_w yX11_swept cX11_swept 2 (some .int)) ({ frames := 1, cells := 0, slots := 0, locals := 22 }) (va_Pc [.ref mo, .int p0] (px_P D y sz [(mo, .inr (11, fmo))])) (va_Qi (fun (r : Int32) (u : Unit) => r = (-1)) (fun (u : Unit) t => True) (va_A [(mo, .inr (11, fmo))] sz)) 0 0 (va_A [(mo, .inr (11, fmo))] sz) := by
  refine Met.ofW (cc := cX11_swept) (maxL := 2) (ret := (some .int)) (by decide) rfl ?_
  intro p e s m args below meth c s₁ B hml hv
  obtain ⟨rfl, hsz, hP, hK, hD0⟩ := hv
  have hx := B.exec
  have hb := B.bytes
  have hr := B.returns
  have hts := atoms_spec (ws := px_w yX11_swept cX11_swept 2 (some .int)) B.pre
  have hg : ∀ w ∈ gw, w.before [.ref mo, .int p0].toArray s = true := fun w h => hts w (List.mem_cons_of_mem _ h)
  have hown : s.vm.findClass RX11 = some m.cls := findClass_of_methodNamed B.named
  have hlocks := B.notSynchronized
  subst hsz
  have hD := hD0.self (sz := s.heap.size)
  generalize hAe : va_A [(mo, .inr (11, fmo))] s.heap.size = A at hD ⊢
  have hA : ∀ q : Nat, s.heap.size ≤ q → A q := fun q h => by rw [← hAe]; exact Or.inr h
  have hS : va_S A s.heap s.heap [] := va_S.rf
  have hP : va_P D vwCl [(mo, .inr (11, fmo))] s.heap := hP
  have hl := lv_entry ([.ref mo, .int p0]) (n := 2) (Nat.le_of_ble_eq_true rfl)
  rw [lg_entry_eq]
  generalize (lg_sl ([.ref mo, .int p0]) ++ List.replicate (2 - (lg_sl ([.ref mo, .int p0])).length) Slot.unset).toArray = ls at hl ⊢
  have hl : lv_has ls 2 [(0, .ref mo), (1, .int p0)] := hl
  refine lv_aload_n hx hb dX11_swept_0 rfl (lv_at hl 0 rfl) ?_
  refine lv_iconst (v := 0) hx hb dX11_swept_1 (by decide) ?_
  refine va_put (D := D) (ci := 11) (v := .int 0) (ty := .int) (C := RX11) (T := TX11) (N := 65) hx hb hg inGX11 tyX11 tyX11_ok nmX11 hown hK hP hD hS 0 rfl rfl 0 (by decide) (hg _ q_6_126) (fun _ h9 => h9) rfl (by decide +kernel) rfl rfl (px_len hmo_0) dX11_swept_2 (fun H locs hP hD hS => ?_)
  have hP : va_P D vwCl [(mo, .inr (11, (fmo.set 0 (.int 0))))] H := hP
  have hD : va_D A [(mo, .inr (11, (fmo.set 0 (.int 0))))] := hD
  refine lv_iload_n hx hb dX11_swept_5 rfl (lv_at hl 1 rfl) ?_
  refine lv_iconst (v := 0) hx hb dX11_swept_6 (by decide) ?_
  refine lv_aload_n hx hb dX11_swept_7 rfl (lv_at hl 0 rfl) ?_
  refine va_get (D := D) (ci := 11) (v := .int 0) (C := RX11) (T := TX11) (N := 65) hx hb hg inGX11 hown hK hP 0 rfl rfl 37 (by decide) (hg _ q_6_163) (fun _ h9 => h9) (px_sn (by decide) hmo_37) dX11_swept_8 ?_
  refine lv_iconst (v := 1) hx hb dX11_swept_11 (by decide) ?_
  refine lv_isub hx hb dX11_swept_12 ?_
  refine px_top (v := (-1)) (by decide) ?_
  have hPc_1 := hP.sub (ws' := []) [] rfl
  have hDc_1 := hD.sub (ws' := []) [] (by decide) rfl
  refine vp_callSi (va_Run.run (va_runS (As := [.int p0, .int 0, .int (-1)]) (rest := []) ⟨hx, hb, hml, hown, hg⟩ (c_X11_isIn l D y H.size p0 0 (-1) ) (va_cwS 3 hg (px_gS q_7_121 q_7_122 q_1_15 q_7_123) rfl rfl rfl (by decide +kernel) ⟨Nat.le_of_ble_eq_true rfl, Nat.le_of_ble_eq_true rfl⟩) (px_preS hK hPc_1 hDc_1) rfl rfl hl.1 rfl (lv_room (Nat.le_of_ble_eq_true rfl)) dX11_swept_13 ⟨Nat.le_of_ble_eq_true rfl, Nat.le_of_ble_eq_true rfl⟩)) (fun r_1 hw_1 => ?_)
  rcases hw_1 with ⟨rfl, g_1_0_0, g_1_0_1⟩ | ⟨rfl, g_1_1_0⟩ | ⟨rfl, g_1_2_0⟩
  · exact (by exfalso; simp only [Int32.lt_iff_toInt_lt, Int32.le_iff_toInt_le, ← Int32.toInt_inj] at g_1_0_0 g_1_0_1; have e0 : ((-1) : Int32).toInt = -1 := rfl; have e1 : (0 : Int32).toInt = 0 := rfl; omega)
  · refine lv_if_eq (tgt := 28) hx hb dX11_swept_16 (by decide) (fun _ => ?_) (fun c_2 => absurd c_2 (by decide))
    refine lv_iconst (v := (-1)) hx hb dX11_swept_28 (by decide) ?_
    exact W.iret (v := (-1)) hx hb hr (fun t ht hW => ⟨⟨_, (), rfl, rfl, trivial⟩, by subst hAe; exact hS.F ht⟩) (fun q h => by subst hAe; exact hS.2.2 q h) dX11_swept_29
  · refine lv_if_eq (tgt := 28) hx hb dX11_swept_16 (by decide) (fun _ => ?_) (fun c_3 => absurd c_3 (by decide))
    refine lv_iconst (v := (-1)) hx hb dX11_swept_28 (by decide) ?_
    exact W.iret (v := (-1)) hx hb hr (fun t ht hW => ⟨⟨_, (), rfl, rfl, trivial⟩, by subst hAe; exact hS.F ht⟩) (fun q h => by subst hAe; exact hS.2.2 q h) dX11_swept_29

set_option maxHeartbeats 4000000 in
set_option maxRecDepth 100000 in
theorem c_X11_gains (l : Launch) (D : va_G) (y : Nat → ClassId) (sz : Nat) (mo : Nat) (fmo : List Value) (ms : Nat) (fms : Nat → Int32) (p0 : Int32) (hmo_0 : fmo[0]? = some (.int 0)) (hmo_6 : fmo[6]? = some (.ref ms)) (hms_e1 : fms 1 = 0) : Met l yX11_gains (px_w yX11_gains cX11_gains 4 (some .int)) ({ frames := 2, cells := 0, slots := 0, locals := 43 }) (va_Pc [.ref mo, .int p0] (px_P D y sz [(mo, .inr (11, fmo)), (ms, .inl (y 1, 765, .inl fms))])) (va_Qi (fun (r : Int32) (u : Unit) => r = (-1)) (fun (u : Unit) t => True) (va_A [(mo, .inr (11, fmo)), (ms, .inl (y 1, 765, .inl fms))] sz)) 0 0 (va_A [(mo, .inr (11, fmo)), (ms, .inl (y 1, 765, .inl fms))] sz) := by
  refine Met.ofW (cc := cX11_gains) (maxL := 4) (ret := (some .int)) (by decide) rfl ?_
  intro p e s m args below meth c s₁ B hml hv
  obtain ⟨rfl, hsz, hP, hK, hD0⟩ := hv
  have hx := B.exec
  have hb := B.bytes
  have hr := B.returns
  have hts := atoms_spec (ws := px_w yX11_gains cX11_gains 4 (some .int)) B.pre
  have hg : ∀ w ∈ gw, w.before [.ref mo, .int p0].toArray s = true := fun w h => hts w (List.mem_cons_of_mem _ h)
  have hown : s.vm.findClass RX11 = some m.cls := findClass_of_methodNamed B.named
  have hlocks := B.notSynchronized
  subst hsz
  have hD := hD0.self (sz := s.heap.size)
  generalize hAe : va_A [(mo, .inr (11, fmo)), (ms, .inl (y 1, 765, .inl fms))] s.heap.size = A at hD ⊢
  have hA : ∀ q : Nat, s.heap.size ≤ q → A q := fun q h => by rw [← hAe]; exact Or.inr h
  have hS : va_S A s.heap s.heap [] := va_S.rf
  have hP : va_P D vwCl [(mo, .inr (11, fmo)), (ms, .inl (y 1, 765, .inl fms))] s.heap := hP
  have hl := lv_entry ([.ref mo, .int p0]) (n := 4) (Nat.le_of_ble_eq_true rfl)
  rw [lg_entry_eq]
  generalize (lg_sl ([.ref mo, .int p0]) ++ List.replicate (4 - (lg_sl ([.ref mo, .int p0])).length) Slot.unset).toArray = ls at hl ⊢
  have hl : lv_has ls 4 [(0, .ref mo), (1, .int p0)] := hl
  refine lv_aload_n hx hb dX11_gains_0 rfl (lv_at hl 0 rfl) ?_
  refine lv_iconst (v := 0) hx hb dX11_gains_1 (by decide) ?_
  refine va_put (D := D) (ci := 11) (v := .int 0) (ty := .int) (C := RX11) (T := TX11) (N := 65) hx hb hg inGX11 tyX11 tyX11_ok nmX11 hown hK hP hD hS 0 rfl rfl 0 (by decide) (hg _ q_6_126) (fun _ h9 => h9) rfl (by decide +kernel) rfl rfl (px_len hmo_0) dX11_gains_2 (fun H locs hP hD hS => ?_)
  have hP : va_P D vwCl [(mo, .inr (11, (fmo.set 0 (.int 0)))), (ms, .inl (y 1, 765, .inl fms))] H := hP
  have hD : va_D A [(mo, .inr (11, (fmo.set 0 (.int 0)))), (ms, .inl (y 1, 765, .inl fms))] := hD
  refine lv_aload_n hx hb dX11_gains_5 rfl (lv_at hl 0 rfl) ?_
  refine lv_iload_n hx hb dX11_gains_6 rfl (lv_at hl 1 rfl) ?_
  have hPc_1 := hP.sub (ws' := [(mo, .inr (11, (fmo.set 0 (.int 0)))), (ms, .inl (y 1, 765, .inl fms))]) [0, 1] rfl
  have hDc_1 := hD.sub (ws' := [(mo, .inr (11, (fmo.set 0 (.int 0)))), (ms, .inl (y 1, 765, .inl fms))]) [0, 1] (by decide) rfl
  refine vp_callSi (va_Run.run (va_runV (As := [.int p0]) (rest := []) ⟨hx, hb, hml, hown, hg⟩ (c_X11_isPerson l D y H.size mo (fmo.set 0 (.int 0)) ms fms p0 (px_sn (by decide) hmo_6) hms_e1) (cwV 1 hg (px_gV q_7_195 q_7_197 q_p_81 q_1_15 q_7_198) rfl rfl rfl (by decide +kernel) ⟨Nat.le_of_ble_eq_true rfl, Nat.le_of_ble_eq_true rfl⟩) (px_preV hK hPc_1 hDc_1 (ci := 11) (q0 := 0) rfl rfl) rfl rfl hl.1 rfl (lv_room (Nat.le_of_ble_eq_true rfl)) dX11_gains_7 ⟨Nat.le_of_ble_eq_true rfl, Nat.le_of_ble_eq_true rfl⟩)) (fun r_1 hw_1 => ?_)
  obtain rfl : r_1 = 0 := hw_1
  refine lv_if_ne (tgt := 15) hx hb dX11_gains_10 (by decide) (fun c_2 => absurd c_2 (by decide)) (fun _ => ?_)
  refine lv_iconst (v := (-1)) hx hb dX11_gains_13 (by decide) ?_
  exact W.iret (v := (-1)) hx hb hr (fun t ht hW => ⟨⟨_, (), rfl, rfl, trivial⟩, by subst hAe; exact hS.F ht⟩) (fun q h => by subst hAe; exact hS.2.2 q h) dX11_gains_14

set_option maxHeartbeats 4000000 in
set_option maxRecDepth 100000 in
theorem c_X11_asked (l : Launch) (D : va_G) (y : Nat → ClassId) (sz : Nat) (mo : Nat) (fmo : List Value) (p0 : Int32) (hmo_0 : fmo[0]? = some (.int 0)) (hmo_24 : fmo[24]? = some (.int 0)) : Met l yX11_asked (px_w yX11_asked cX11_asked 2 (some .int)) ({ frames := 0, cells := 0, slots := 0, locals := 0 }) (va_Pc [.ref mo, .int p0] (px_P D y sz [(mo, .inr (11, fmo))])) (va_Qi (fun (r : Int32) (u : Unit) => r = (-1)) (fun (u : Unit) t => True) (va_A [(mo, .inr (11, fmo))] sz)) 0 0 (va_A [(mo, .inr (11, fmo))] sz) := by
  refine Met.ofW (cc := cX11_asked) (maxL := 2) (ret := (some .int)) (by decide) rfl ?_
  intro p e s m args below meth c s₁ B hml hv
  obtain ⟨rfl, hsz, hP, hK, hD0⟩ := hv
  have hx := B.exec
  have hb := B.bytes
  have hr := B.returns
  have hts := atoms_spec (ws := px_w yX11_asked cX11_asked 2 (some .int)) B.pre
  have hg : ∀ w ∈ gw, w.before [.ref mo, .int p0].toArray s = true := fun w h => hts w (List.mem_cons_of_mem _ h)
  have hown : s.vm.findClass RX11 = some m.cls := findClass_of_methodNamed B.named
  have hlocks := B.notSynchronized
  subst hsz
  have hD := hD0.self (sz := s.heap.size)
  generalize hAe : va_A [(mo, .inr (11, fmo))] s.heap.size = A at hD ⊢
  have hA : ∀ q : Nat, s.heap.size ≤ q → A q := fun q h => by rw [← hAe]; exact Or.inr h
  have hS : va_S A s.heap s.heap [] := va_S.rf
  have hP : va_P D vwCl [(mo, .inr (11, fmo))] s.heap := hP
  have hl := lv_entry ([.ref mo, .int p0]) (n := 2) (Nat.le_of_ble_eq_true rfl)
  rw [lg_entry_eq]
  generalize (lg_sl ([.ref mo, .int p0]) ++ List.replicate (2 - (lg_sl ([.ref mo, .int p0])).length) Slot.unset).toArray = ls at hl ⊢
  have hl : lv_has ls 2 [(0, .ref mo), (1, .int p0)] := hl
  refine lv_aload_n hx hb dX11_asked_0 rfl (lv_at hl 0 rfl) ?_
  refine lv_iconst (v := 0) hx hb dX11_asked_1 (by decide) ?_
  refine va_put (D := D) (ci := 11) (v := .int 0) (ty := .int) (C := RX11) (T := TX11) (N := 65) hx hb hg inGX11 tyX11 tyX11_ok nmX11 hown hK hP hD hS 0 rfl rfl 0 (by decide) (hg _ q_6_126) (fun _ h9 => h9) rfl (by decide +kernel) rfl rfl (px_len hmo_0) dX11_asked_2 (fun H locs hP hD hS => ?_)
  have hP : va_P D vwCl [(mo, .inr (11, (fmo.set 0 (.int 0))))] H := hP
  have hD : va_D A [(mo, .inr (11, (fmo.set 0 (.int 0))))] := hD
  refine lv_aload_n hx hb dX11_asked_5 rfl (lv_at hl 0 rfl) ?_
  refine va_get (D := D) (ci := 11) (v := .int 0) (C := RX11) (T := TX11) (N := 65) hx hb hg inGX11 hown hK hP 0 rfl rfl 24 (by decide) (hg _ q_6_150) (fun _ h9 => h9) (px_sn (by decide) hmo_24) dX11_asked_6 ?_
  refine lv_if_eq (tgt := 31) hx hb dX11_asked_9 (by decide) (fun _ => ?_) (fun c_1 => absurd c_1 (by decide))
  refine lv_iconst (v := (-1)) hx hb dX11_asked_31 (by decide) ?_
  exact W.iret (v := (-1)) hx hb hr (fun t ht hW => ⟨⟨_, (), rfl, rfl, trivial⟩, by subst hAe; exact hS.F ht⟩) (fun q h => by subst hAe; exact hS.2.2 q h) dX11_asked_32

set_option maxHeartbeats 4000000 in
set_option maxRecDepth 100000 in
theorem c_X11_heard (l : Launch) (D : va_G) (y : Nat → ClassId) (sz : Nat) (mo : Nat) (fmo : List Value) (p0 : Int32) (hmo_0 : fmo[0]? = some (.int 0)) (hmo_54 : fmo[54]? = some (.int 0)) : Met l yX11_heard (px_w yX11_heard cX11_heard 2 (some .int)) ({ frames := 0, cells := 0, slots := 0, locals := 0 }) (va_Pc [.ref mo, .int p0] (px_P D y sz [(mo, .inr (11, fmo))])) (va_Qi (fun (r : Int32) (u : Unit) => r = (-1)) (fun (u : Unit) t => True) (va_A [(mo, .inr (11, fmo))] sz)) 0 0 (va_A [(mo, .inr (11, fmo))] sz) := by
  refine Met.ofW (cc := cX11_heard) (maxL := 2) (ret := (some .int)) (by decide) rfl ?_
  intro p e s m args below meth c s₁ B hml hv
  obtain ⟨rfl, hsz, hP, hK, hD0⟩ := hv
  have hx := B.exec
  have hb := B.bytes
  have hr := B.returns
  have hts := atoms_spec (ws := px_w yX11_heard cX11_heard 2 (some .int)) B.pre
  have hg : ∀ w ∈ gw, w.before [.ref mo, .int p0].toArray s = true := fun w h => hts w (List.mem_cons_of_mem _ h)
  have hown : s.vm.findClass RX11 = some m.cls := findClass_of_methodNamed B.named
  have hlocks := B.notSynchronized
  subst hsz
  have hD := hD0.self (sz := s.heap.size)
  generalize hAe : va_A [(mo, .inr (11, fmo))] s.heap.size = A at hD ⊢
  have hA : ∀ q : Nat, s.heap.size ≤ q → A q := fun q h => by rw [← hAe]; exact Or.inr h
  have hS : va_S A s.heap s.heap [] := va_S.rf
  have hP : va_P D vwCl [(mo, .inr (11, fmo))] s.heap := hP
  have hl := lv_entry ([.ref mo, .int p0]) (n := 2) (Nat.le_of_ble_eq_true rfl)
  rw [lg_entry_eq]
  generalize (lg_sl ([.ref mo, .int p0]) ++ List.replicate (2 - (lg_sl ([.ref mo, .int p0])).length) Slot.unset).toArray = ls at hl ⊢
  have hl : lv_has ls 2 [(0, .ref mo), (1, .int p0)] := hl
  refine lv_aload_n hx hb dX11_heard_0 rfl (lv_at hl 0 rfl) ?_
  refine lv_iconst (v := 0) hx hb dX11_heard_1 (by decide) ?_
  refine va_put (D := D) (ci := 11) (v := .int 0) (ty := .int) (C := RX11) (T := TX11) (N := 65) hx hb hg inGX11 tyX11 tyX11_ok nmX11 hown hK hP hD hS 0 rfl rfl 0 (by decide) (hg _ q_6_126) (fun _ h9 => h9) rfl (by decide +kernel) rfl rfl (px_len hmo_0) dX11_heard_2 (fun H locs hP hD hS => ?_)
  have hP : va_P D vwCl [(mo, .inr (11, (fmo.set 0 (.int 0))))] H := hP
  have hD : va_D A [(mo, .inr (11, (fmo.set 0 (.int 0))))] := hD
  refine lv_aload_n hx hb dX11_heard_5 rfl (lv_at hl 0 rfl) ?_
  refine va_get (D := D) (ci := 11) (v := .int 0) (C := RX11) (T := TX11) (N := 65) hx hb hg inGX11 hown hK hP 0 rfl rfl 54 (by decide) (hg _ q_6_180) (fun _ h9 => h9) (px_sn (by decide) hmo_54) dX11_heard_6 ?_
  refine lv_if_eq (tgt := 30) hx hb dX11_heard_9 (by decide) (fun _ => ?_) (fun c_1 => absurd c_1 (by decide))
  refine lv_iconst (v := (-1)) hx hb dX11_heard_30 (by decide) ?_
  exact W.iret (v := (-1)) hx hb hr (fun t ht hW => ⟨⟨_, (), rfl, rfl, trivial⟩, by subst hAe; exact hS.F ht⟩) (fun q h => by subst hAe; exact hS.2.2 q h) dX11_heard_31

set_option maxHeartbeats 4000000 in
set_option maxRecDepth 100000 in
theorem c_X11_bent (l : Launch) (D : va_G) (y : Nat → ClassId) (sz : Nat) (mo : Nat) (fmo : List Value) (ms : Nat) (fms : Nat → Int32) (p0 : Int32) (p1 : Int32) (hmo_0 : fmo[0]? = some (.int 0)) (hmo_6 : fmo[6]? = some (.ref ms)) (hms_e1 : fms 1 = 0) : Met l yX11_bent (px_w yX11_bent cX11_bent 3 (some .int)) ({ frames := 2, cells := 0, slots := 0, locals := 43 }) (va_Pc [.ref mo, .int p0, .int p1] (px_P D y sz [(mo, .inr (11, fmo)), (ms, .inl (y 1, 765, .inl fms))])) (va_Qi (fun (r : Int32) (u : Unit) => r = (-1)) (fun (u : Unit) t => True) (va_A [(mo, .inr (11, fmo)), (ms, .inl (y 1, 765, .inl fms))] sz)) 0 0 (va_A [(mo, .inr (11, fmo)), (ms, .inl (y 1, 765, .inl fms))] sz) := by
  refine Met.ofW (cc := cX11_bent) (maxL := 3) (ret := (some .int)) (by decide) rfl ?_
  intro p e s m args below meth c s₁ B hml hv
  obtain ⟨rfl, hsz, hP, hK, hD0⟩ := hv
  have hx := B.exec
  have hb := B.bytes
  have hr := B.returns
  have hts := atoms_spec (ws := px_w yX11_bent cX11_bent 3 (some .int)) B.pre
  have hg : ∀ w ∈ gw, w.before [.ref mo, .int p0, .int p1].toArray s = true := fun w h => hts w (List.mem_cons_of_mem _ h)
  have hown : s.vm.findClass RX11 = some m.cls := findClass_of_methodNamed B.named
  have hlocks := B.notSynchronized
  subst hsz
  have hD := hD0.self (sz := s.heap.size)
  generalize hAe : va_A [(mo, .inr (11, fmo)), (ms, .inl (y 1, 765, .inl fms))] s.heap.size = A at hD ⊢
  have hA : ∀ q : Nat, s.heap.size ≤ q → A q := fun q h => by rw [← hAe]; exact Or.inr h
  have hS : va_S A s.heap s.heap [] := va_S.rf
  have hP : va_P D vwCl [(mo, .inr (11, fmo)), (ms, .inl (y 1, 765, .inl fms))] s.heap := hP
  have hl := lv_entry ([.ref mo, .int p0, .int p1]) (n := 3) (Nat.le_of_ble_eq_true rfl)
  rw [lg_entry_eq]
  generalize (lg_sl ([.ref mo, .int p0, .int p1]) ++ List.replicate (3 - (lg_sl ([.ref mo, .int p0, .int p1])).length) Slot.unset).toArray = ls at hl ⊢
  have hl : lv_has ls 3 [(0, .ref mo), (1, .int p0), (2, .int p1)] := hl
  refine lv_aload_n hx hb dX11_bent_0 rfl (lv_at hl 0 rfl) ?_
  refine lv_iconst (v := 0) hx hb dX11_bent_1 (by decide) ?_
  refine va_put (D := D) (ci := 11) (v := .int 0) (ty := .int) (C := RX11) (T := TX11) (N := 65) hx hb hg inGX11 tyX11 tyX11_ok nmX11 hown hK hP hD hS 0 rfl rfl 0 (by decide) (hg _ q_6_126) (fun _ h9 => h9) rfl (by decide +kernel) rfl rfl (px_len hmo_0) dX11_bent_2 (fun H locs hP hD hS => ?_)
  have hP : va_P D vwCl [(mo, .inr (11, (fmo.set 0 (.int 0)))), (ms, .inl (y 1, 765, .inl fms))] H := hP
  have hD : va_D A [(mo, .inr (11, (fmo.set 0 (.int 0)))), (ms, .inl (y 1, 765, .inl fms))] := hD
  refine lv_aload_n hx hb dX11_bent_5 rfl (lv_at hl 0 rfl) ?_
  refine lv_iload_n hx hb dX11_bent_6 rfl (lv_at hl 1 rfl) ?_
  have hPc_1 := hP.sub (ws' := [(mo, .inr (11, (fmo.set 0 (.int 0)))), (ms, .inl (y 1, 765, .inl fms))]) [0, 1] rfl
  have hDc_1 := hD.sub (ws' := [(mo, .inr (11, (fmo.set 0 (.int 0)))), (ms, .inl (y 1, 765, .inl fms))]) [0, 1] (by decide) rfl
  refine vp_callSi (va_Run.run (va_runV (As := [.int p0]) (rest := []) ⟨hx, hb, hml, hown, hg⟩ (c_X11_isPerson l D y H.size mo (fmo.set 0 (.int 0)) ms fms p0 (px_sn (by decide) hmo_6) hms_e1) (cwV 1 hg (px_gV q_7_195 q_7_197 q_p_81 q_1_15 q_7_198) rfl rfl rfl (by decide +kernel) ⟨Nat.le_of_ble_eq_true rfl, Nat.le_of_ble_eq_true rfl⟩) (px_preV hK hPc_1 hDc_1 (ci := 11) (q0 := 0) rfl rfl) rfl rfl hl.1 rfl (lv_room (Nat.le_of_ble_eq_true rfl)) dX11_bent_7 ⟨Nat.le_of_ble_eq_true rfl, Nat.le_of_ble_eq_true rfl⟩)) (fun r_1 hw_1 => ?_)
  obtain rfl : r_1 = 0 := hw_1
  refine lv_if_eq (tgt := 31) hx hb dX11_bent_10 (by decide) (fun _ => ?_) (fun c_2 => absurd c_2 (by decide))
  refine lv_iconst (v := (-1)) hx hb dX11_bent_31 (by decide) ?_
  exact W.iret (v := (-1)) hx hb hr (fun t ht hW => ⟨⟨_, (), rfl, rfl, trivial⟩, by subst hAe; exact hS.F ht⟩) (fun q h => by subst hAe; exact hS.2.2 q h) dX11_bent_32

set_option maxHeartbeats 4000000 in
set_option maxRecDepth 100000 in
theorem c_X11_leader (l : Launch) (D : va_G) (y : Nat → ClassId) (sz : Nat) (mo : Nat) (fmo : List Value) (ms : Nat) (fms : Nat → Int32) (hmo_0 : fmo[0]? = some (.int 0)) (hmo_6 : fmo[6]? = some (.ref ms)) (hms_e1 : fms 1 = 0) : Met l yX11_leader (px_w yX11_leader cX11_leader 3 (some .int)) ({ frames := 0, cells := 0, slots := 0, locals := 0 }) (va_Pc [.ref mo] (px_P D y sz [(mo, .inr (11, fmo)), (ms, .inl (y 1, 765, .inl fms))])) (va_Qi (fun (r : Int32) (u : Unit) => r = (-1)) (fun (u : Unit) t => True) (va_A [(mo, .inr (11, fmo)), (ms, .inl (y 1, 765, .inl fms))] sz)) 0 0 (va_A [(mo, .inr (11, fmo)), (ms, .inl (y 1, 765, .inl fms))] sz) := by
  refine Met.ofW (cc := cX11_leader) (maxL := 3) (ret := (some .int)) (by decide) rfl ?_
  intro p e s m args below meth c s₁ B hml hv
  obtain ⟨rfl, hsz, hP, hK, hD0⟩ := hv
  have hx := B.exec
  have hb := B.bytes
  have hr := B.returns
  have hts := atoms_spec (ws := px_w yX11_leader cX11_leader 3 (some .int)) B.pre
  have hg : ∀ w ∈ gw, w.before [.ref mo].toArray s = true := fun w h => hts w (List.mem_cons_of_mem _ h)
  have hown : s.vm.findClass RX11 = some m.cls := findClass_of_methodNamed B.named
  have hlocks := B.notSynchronized
  subst hsz
  have hD := hD0.self (sz := s.heap.size)
  generalize hAe : va_A [(mo, .inr (11, fmo)), (ms, .inl (y 1, 765, .inl fms))] s.heap.size = A at hD ⊢
  have hA : ∀ q : Nat, s.heap.size ≤ q → A q := fun q h => by rw [← hAe]; exact Or.inr h
  have hS : va_S A s.heap s.heap [] := va_S.rf
  have hP : va_P D vwCl [(mo, .inr (11, fmo)), (ms, .inl (y 1, 765, .inl fms))] s.heap := hP
  have hl := lv_entry ([.ref mo]) (n := 3) (Nat.le_of_ble_eq_true rfl)
  rw [lg_entry_eq]
  generalize (lg_sl ([.ref mo]) ++ List.replicate (3 - (lg_sl ([.ref mo])).length) Slot.unset).toArray = ls at hl ⊢
  have hl : lv_has ls 3 [(0, .ref mo)] := hl
  refine lv_aload_n hx hb dX11_leader_0 rfl (lv_at hl 0 rfl) ?_
  refine lv_iconst (v := 0) hx hb dX11_leader_1 (by decide) ?_
  refine va_put (D := D) (ci := 11) (v := .int 0) (ty := .int) (C := RX11) (T := TX11) (N := 65) hx hb hg inGX11 tyX11 tyX11_ok nmX11 hown hK hP hD hS 0 rfl rfl 0 (by decide) (hg _ q_6_126) (fun _ h9 => h9) rfl (by decide +kernel) rfl rfl (px_len hmo_0) dX11_leader_2 (fun H locs hP hD hS => ?_)
  have hP : va_P D vwCl [(mo, .inr (11, (fmo.set 0 (.int 0)))), (ms, .inl (y 1, 765, .inl fms))] H := hP
  have hD : va_D A [(mo, .inr (11, (fmo.set 0 (.int 0)))), (ms, .inl (y 1, 765, .inl fms))] := hD
  refine lv_iconst (v := (-1)) hx hb dX11_leader_5 (by decide) ?_
  refine lv_istore_n (lv' := [(1, .int (-1)), (0, .ref mo)]) hx hb dX11_leader_6 rfl hl (by decide) rfl (fun ls hl => ?_)
  refine lv_iconst (v := 0) hx hb dX11_leader_7 (by decide) ?_
  refine lv_istore_n (lv' := [(2, .int 0), (1, .int (-1)), (0, .ref mo)]) hx hb dX11_leader_8 rfl hl (by decide) rfl (fun ls hl => ?_)
  refine lv_iload_n hx hb dX11_leader_9 rfl (lv_at hl 0 rfl) ?_
  refine lv_aload_n hx hb dX11_leader_10 rfl (lv_at hl 2 rfl) ?_
  refine va_get (D := D) (ci := 11) (v := .ref ms) (C := RX11) (T := TX11) (N := 65) hx hb hg inGX11 hown hK hP 0 rfl rfl 6 (by decide) (hg _ q_6_132) (fun _ h9 => h9) (px_sn (by decide) hmo_6) dX11_leader_11 ?_
  refine lv_iconst (v := 1) hx hb dX11_leader_14 (by decide) ?_
  refine va_iald hx hb hK hP 1 1 rfl rfl (i := 1) (px_in (by decide)) dX11_leader_15 ?_
  refine px_top (v := 0) hms_e1 ?_
  refine lv_icmp_ge (tgt := 44) hx hb dX11_leader_16 (by decide) (fun _ => ?_) (fun c_1 => absurd c_1 (by decide))
  refine lv_iload_n hx hb dX11_leader_44 rfl (lv_at hl 1 rfl) ?_
  exact W.iret (v := (-1)) hx hb hr (fun t ht hW => ⟨⟨_, (), rfl, rfl, trivial⟩, by subst hAe; exact hS.F ht⟩) (fun q h => by subst hAe; exact hS.2.2 q h) dX11_leader_45

set_option maxHeartbeats 4000000 in
set_option maxRecDepth 100000 in
theorem c_X11_said (l : Launch) (D : va_G) (y : Nat → ClassId) (sz : Nat) (mo : Nat) (fmo : List Value) (ms : Nat) (fms : Nat → Int32) (p0 : Int32) (hmo_0 : fmo[0]? = some (.int 0)) (hmo_6 : fmo[6]? = some (.ref ms)) (hms_e584 : fms 584 = 0) : Met l yX11_said (px_w yX11_said cX11_said 4 (some .int)) ({ frames := 0, cells := 0, slots := 0, locals := 0 }) (va_Pc [.ref mo, .int p0] (px_P D y sz [(mo, .inr (11, fmo)), (ms, .inl (y 1, 765, .inl fms))])) (va_Qi (fun (r : Int32) (u : Unit) => r = (-1)) (fun (u : Unit) t => True) (va_A [(mo, .inr (11, fmo)), (ms, .inl (y 1, 765, .inl fms))] sz)) 0 0 (va_A [(mo, .inr (11, fmo)), (ms, .inl (y 1, 765, .inl fms))] sz) := by
  refine Met.ofW (cc := cX11_said) (maxL := 4) (ret := (some .int)) (by decide) rfl ?_
  intro p e s m args below meth c s₁ B hml hv
  obtain ⟨rfl, hsz, hP, hK, hD0⟩ := hv
  have hx := B.exec
  have hb := B.bytes
  have hr := B.returns
  have hts := atoms_spec (ws := px_w yX11_said cX11_said 4 (some .int)) B.pre
  have hg : ∀ w ∈ gw, w.before [.ref mo, .int p0].toArray s = true := fun w h => hts w (List.mem_cons_of_mem _ h)
  have hown : s.vm.findClass RX11 = some m.cls := findClass_of_methodNamed B.named
  have hlocks := B.notSynchronized
  subst hsz
  have hD := hD0.self (sz := s.heap.size)
  generalize hAe : va_A [(mo, .inr (11, fmo)), (ms, .inl (y 1, 765, .inl fms))] s.heap.size = A at hD ⊢
  have hA : ∀ q : Nat, s.heap.size ≤ q → A q := fun q h => by rw [← hAe]; exact Or.inr h
  have hS : va_S A s.heap s.heap [] := va_S.rf
  have hP : va_P D vwCl [(mo, .inr (11, fmo)), (ms, .inl (y 1, 765, .inl fms))] s.heap := hP
  have hl := lv_entry ([.ref mo, .int p0]) (n := 4) (Nat.le_of_ble_eq_true rfl)
  rw [lg_entry_eq]
  generalize (lg_sl ([.ref mo, .int p0]) ++ List.replicate (4 - (lg_sl ([.ref mo, .int p0])).length) Slot.unset).toArray = ls at hl ⊢
  have hl : lv_has ls 4 [(0, .ref mo), (1, .int p0)] := hl
  refine lv_aload_n hx hb dX11_said_0 rfl (lv_at hl 0 rfl) ?_
  refine lv_iconst (v := 0) hx hb dX11_said_1 (by decide) ?_
  refine va_put (D := D) (ci := 11) (v := .int 0) (ty := .int) (C := RX11) (T := TX11) (N := 65) hx hb hg inGX11 tyX11 tyX11_ok nmX11 hown hK hP hD hS 0 rfl rfl 0 (by decide) (hg _ q_6_126) (fun _ h9 => h9) rfl (by decide +kernel) rfl rfl (px_len hmo_0) dX11_said_2 (fun H locs hP hD hS => ?_)
  have hP : va_P D vwCl [(mo, .inr (11, (fmo.set 0 (.int 0)))), (ms, .inl (y 1, 765, .inl fms))] H := hP
  have hD : va_D A [(mo, .inr (11, (fmo.set 0 (.int 0)))), (ms, .inl (y 1, 765, .inl fms))] := hD
  refine lv_aload_n hx hb dX11_said_5 rfl (lv_at hl 0 rfl) ?_
  refine va_get (D := D) (ci := 11) (v := .ref ms) (C := RX11) (T := TX11) (N := 65) hx hb hg inGX11 hown hK hP 0 rfl rfl 6 (by decide) (hg _ q_6_132) (fun _ h9 => h9) (px_sn (by decide) hmo_6) dX11_said_6 ?_
  refine lv_sipush (v := 584) hx hb dX11_said_9 (by decide) ?_
  refine va_iald hx hb hK hP 1 1 rfl rfl (i := 584) (px_in (by decide)) dX11_said_12 ?_
  refine px_top (v := 0) hms_e584 ?_
  refine lv_if_eq (tgt := 21) hx hb dX11_said_13 (by decide) (fun _ => ?_) (fun c_1 => absurd c_1 (by decide))
  refine lv_iconst (v := (-1)) hx hb dX11_said_21 (by decide) ?_
  exact W.iret (v := (-1)) hx hb hr (fun t ht hW => ⟨⟨_, (), rfl, rfl, trivial⟩, by subst hAe; exact hS.F ht⟩) (fun q h => by subst hAe; exact hS.2.2 q h) dX11_said_22

set_option maxHeartbeats 4000000 in
set_option maxRecDepth 100000 in
theorem c_X11_deal (l : Launch) (D : va_G) (y : Nat → ClassId) (sz : Nat) (mo : Nat) (fmo : List Value) (ms : Nat) (fms : Nat → Int32) (p0 : Int32) (p1 : Int32) (hmo_0 : fmo[0]? = some (.int 0)) (hmo_6 : fmo[6]? = some (.ref ms)) (hms_e1 : fms 1 = 0) : Met l yX11_deal (px_w yX11_deal cX11_deal 3 (some .boolean)) ({ frames := 1, cells := 0, slots := 0, locals := 22 }) (va_Pc [.ref mo, .int p0, .int p1] (px_P D y sz [(mo, .inr (11, fmo)), (ms, .inl (y 1, 765, .inl fms))])) (va_Qi (fun (r : Int32) (u : Unit) => r = 0) (fun (u : Unit) t => True) (va_A [(mo, .inr (11, fmo)), (ms, .inl (y 1, 765, .inl fms))] sz)) 0 0 (va_A [(mo, .inr (11, fmo)), (ms, .inl (y 1, 765, .inl fms))] sz) := by
  refine Met.ofW (cc := cX11_deal) (maxL := 3) (ret := (some .boolean)) (by decide) rfl ?_
  intro p e s m args below meth c s₁ B hml hv
  obtain ⟨rfl, hsz, hP, hK, hD0⟩ := hv
  have hx := B.exec
  have hb := B.bytes
  have hr := B.returns
  have hts := atoms_spec (ws := px_w yX11_deal cX11_deal 3 (some .boolean)) B.pre
  have hg : ∀ w ∈ gw, w.before [.ref mo, .int p0, .int p1].toArray s = true := fun w h => hts w (List.mem_cons_of_mem _ h)
  have hown : s.vm.findClass RX11 = some m.cls := findClass_of_methodNamed B.named
  have hlocks := B.notSynchronized
  subst hsz
  have hD := hD0.self (sz := s.heap.size)
  generalize hAe : va_A [(mo, .inr (11, fmo)), (ms, .inl (y 1, 765, .inl fms))] s.heap.size = A at hD ⊢
  have hA : ∀ q : Nat, s.heap.size ≤ q → A q := fun q h => by rw [← hAe]; exact Or.inr h
  have hS : va_S A s.heap s.heap [] := va_S.rf
  have hP : va_P D vwCl [(mo, .inr (11, fmo)), (ms, .inl (y 1, 765, .inl fms))] s.heap := hP
  have hl := lv_entry ([.ref mo, .int p0, .int p1]) (n := 3) (Nat.le_of_ble_eq_true rfl)
  rw [lg_entry_eq]
  generalize (lg_sl ([.ref mo, .int p0, .int p1]) ++ List.replicate (3 - (lg_sl ([.ref mo, .int p0, .int p1])).length) Slot.unset).toArray = ls at hl ⊢
  have hl : lv_has ls 3 [(0, .ref mo), (1, .int p0), (2, .int p1)] := hl
  refine lv_aload_n hx hb dX11_deal_0 rfl (lv_at hl 0 rfl) ?_
  refine lv_iconst (v := 0) hx hb dX11_deal_1 (by decide) ?_
  refine va_put (D := D) (ci := 11) (v := .int 0) (ty := .int) (C := RX11) (T := TX11) (N := 65) hx hb hg inGX11 tyX11 tyX11_ok nmX11 hown hK hP hD hS 0 rfl rfl 0 (by decide) (hg _ q_6_126) (fun _ h9 => h9) rfl (by decide +kernel) rfl rfl (px_len hmo_0) dX11_deal_2 (fun H locs hP hD hS => ?_)
  have hP : va_P D vwCl [(mo, .inr (11, (fmo.set 0 (.int 0)))), (ms, .inl (y 1, 765, .inl fms))] H := hP
  have hD : va_D A [(mo, .inr (11, (fmo.set 0 (.int 0)))), (ms, .inl (y 1, 765, .inl fms))] := hD
  refine lv_iload_n hx hb dX11_deal_5 rfl (lv_at hl 1 rfl) ?_
  refine lv_iconst (v := 1) hx hb dX11_deal_6 (by decide) ?_
  refine lv_bipush (v := 9) hx hb dX11_deal_7 (by decide) ?_
  have hPc_1 := hP.sub (ws' := []) [] rfl
  have hDc_1 := hD.sub (ws' := []) [] (by decide) rfl
  refine vp_callSi (va_Run.run (va_runS (As := [.int p0, .int 1, .int 9]) (rest := []) ⟨hx, hb, hml, hown, hg⟩ (c_X11_isIn l D y H.size p0 1 9 ) (va_cwS 3 hg (px_gS q_7_121 q_7_122 q_1_15 q_7_123) rfl rfl rfl (by decide +kernel) ⟨Nat.le_of_ble_eq_true rfl, Nat.le_of_ble_eq_true rfl⟩) (px_preS hK hPc_1 hDc_1) rfl rfl hl.1 rfl (lv_room (Nat.le_of_ble_eq_true rfl)) dX11_deal_9 ⟨Nat.le_of_ble_eq_true rfl, Nat.le_of_ble_eq_true rfl⟩)) (fun r_1 hw_1 => ?_)
  rcases hw_1 with ⟨rfl, g_1_0_0, g_1_0_1⟩ | ⟨rfl, g_1_1_0⟩ | ⟨rfl, g_1_2_0⟩
  · refine lv_if_eq (tgt := 52) hx hb dX11_deal_12 (by decide) (fun c_2 => absurd c_2 (by decide)) (fun _ => ?_)
    refine lv_aload_n hx hb dX11_deal_15 rfl (lv_at hl 0 rfl) ?_
    refine va_get (D := D) (ci := 11) (v := .ref ms) (C := RX11) (T := TX11) (N := 65) hx hb hg inGX11 hown hK hP 0 rfl rfl 6 (by decide) (hg _ q_6_132) (fun _ h9 => h9) (px_sn (by decide) hmo_6) dX11_deal_16 ?_
    refine lv_iconst (v := 1) hx hb dX11_deal_19 (by decide) ?_
    refine va_iald hx hb hK hP 1 1 rfl rfl (i := 1) (px_in (by decide)) dX11_deal_20 ?_
    refine px_top (v := 0) hms_e1 ?_
    refine lv_if_eq (tgt := 52) hx hb dX11_deal_21 (by decide) (fun _ => ?_) (fun c_3 => absurd c_3 (by decide))
    refine lv_iconst (v := 0) hx hb dX11_deal_52 (by decide) ?_
    exact W.zret (v := 0) hx hb hr (by decide) (fun t ht hW => ⟨⟨_, (), rfl, rfl, trivial⟩, by subst hAe; exact hS.F ht⟩) (fun q h => by subst hAe; exact hS.2.2 q h) dX11_deal_53
  · refine lv_if_eq (tgt := 52) hx hb dX11_deal_12 (by decide) (fun _ => ?_) (fun c_4 => absurd c_4 (by decide))
    refine lv_iconst (v := 0) hx hb dX11_deal_52 (by decide) ?_
    exact W.zret (v := 0) hx hb hr (by decide) (fun t ht hW => ⟨⟨_, (), rfl, rfl, trivial⟩, by subst hAe; exact hS.F ht⟩) (fun q h => by subst hAe; exact hS.2.2 q h) dX11_deal_53
  · refine lv_if_eq (tgt := 52) hx hb dX11_deal_12 (by decide) (fun _ => ?_) (fun c_5 => absurd c_5 (by decide))
    refine lv_iconst (v := 0) hx hb dX11_deal_52 (by decide) ?_
    exact W.zret (v := 0) hx hb hr (by decide) (fun t ht hW => ⟨⟨_, (), rfl, rfl, trivial⟩, by subst hAe; exact hS.F ht⟩) (fun q h => by subst hAe; exact hS.2.2 q h) dX11_deal_53

set_option maxHeartbeats 4000000 in
set_option maxRecDepth 100000 in
theorem c_X11_games (l : Launch) (D : va_G) (y : Nat → ClassId) (sz : Nat) (mo : Nat) (fmo : List Value) (ms : Nat) (fms : Nat → Int32) (p0 : Int32) (p1 : Int32) (p2 : Int32) (p3 : Int32) (hmo_0 : fmo[0]? = some (.int 0)) (hmo_6 : fmo[6]? = some (.ref ms)) (hms_e1 : fms 1 = 0) : Met l yX11_games (px_w yX11_games cX11_games 5 (some .int)) ({ frames := 2, cells := 0, slots := 0, locals := 45 }) (va_Pc [.ref mo, .int p0, .int p1, .int p2, .int p3] (px_P D y sz [(mo, .inr (11, fmo)), (ms, .inl (y 1, 765, .inl fms))])) (va_Qi (fun (r : Int32) (u : Unit) => r = (-1)) (fun (u : Unit) t => True) (va_A [(mo, .inr (11, fmo)), (ms, .inl (y 1, 765, .inl fms))] sz)) 0 0 (va_A [(mo, .inr (11, fmo)), (ms, .inl (y 1, 765, .inl fms))] sz) := by
  refine Met.ofW (cc := cX11_games) (maxL := 5) (ret := (some .int)) (by decide) rfl ?_
  intro p e s m args below meth c s₁ B hml hv
  obtain ⟨rfl, hsz, hP, hK, hD0⟩ := hv
  have hx := B.exec
  have hb := B.bytes
  have hr := B.returns
  have hts := atoms_spec (ws := px_w yX11_games cX11_games 5 (some .int)) B.pre
  have hg : ∀ w ∈ gw, w.before [.ref mo, .int p0, .int p1, .int p2, .int p3].toArray s = true := fun w h => hts w (List.mem_cons_of_mem _ h)
  have hown : s.vm.findClass RX11 = some m.cls := findClass_of_methodNamed B.named
  have hlocks := B.notSynchronized
  subst hsz
  have hD := hD0.self (sz := s.heap.size)
  generalize hAe : va_A [(mo, .inr (11, fmo)), (ms, .inl (y 1, 765, .inl fms))] s.heap.size = A at hD ⊢
  have hA : ∀ q : Nat, s.heap.size ≤ q → A q := fun q h => by rw [← hAe]; exact Or.inr h
  have hS : va_S A s.heap s.heap [] := va_S.rf
  have hP : va_P D vwCl [(mo, .inr (11, fmo)), (ms, .inl (y 1, 765, .inl fms))] s.heap := hP
  have hl := lv_entry ([.ref mo, .int p0, .int p1, .int p2, .int p3]) (n := 5) (Nat.le_of_ble_eq_true rfl)
  rw [lg_entry_eq]
  generalize (lg_sl ([.ref mo, .int p0, .int p1, .int p2, .int p3]) ++ List.replicate (5 - (lg_sl ([.ref mo, .int p0, .int p1, .int p2, .int p3])).length) Slot.unset).toArray = ls at hl ⊢
  have hl : lv_has ls 5 [(0, .ref mo), (1, .int p0), (2, .int p1), (3, .int p2), (4, .int p3)] := hl
  refine lv_aload_n hx hb dX11_games_0 rfl (lv_at hl 0 rfl) ?_
  refine lv_iconst (v := 0) hx hb dX11_games_1 (by decide) ?_
  refine va_put (D := D) (ci := 11) (v := .int 0) (ty := .int) (C := RX11) (T := TX11) (N := 65) hx hb hg inGX11 tyX11 tyX11_ok nmX11 hown hK hP hD hS 0 rfl rfl 0 (by decide) (hg _ q_6_126) (fun _ h9 => h9) rfl (by decide +kernel) rfl rfl (px_len hmo_0) dX11_games_2 (fun H locs hP hD hS => ?_)
  have hP : va_P D vwCl [(mo, .inr (11, (fmo.set 0 (.int 0)))), (ms, .inl (y 1, 765, .inl fms))] H := hP
  have hD : va_D A [(mo, .inr (11, (fmo.set 0 (.int 0)))), (ms, .inl (y 1, 765, .inl fms))] := hD
  refine lv_aload_n hx hb dX11_games_5 rfl (lv_at hl 0 rfl) ?_
  refine lv_iload_n hx hb dX11_games_6 rfl (lv_at hl 1 rfl) ?_
  refine lv_iload_n hx hb dX11_games_7 rfl (lv_at hl 2 rfl) ?_
  refine lv_iload_n hx hb dX11_games_8 rfl (lv_at hl 3 rfl) ?_
  have hPc_1 := hP.sub (ws' := [(mo, .inr (11, (fmo.set 0 (.int 0)))), (ms, .inl (y 1, 765, .inl fms))]) [0, 1] rfl
  have hDc_1 := hD.sub (ws' := [(mo, .inr (11, (fmo.set 0 (.int 0)))), (ms, .inl (y 1, 765, .inl fms))]) [0, 1] (by decide) rfl
  refine vp_callSi (va_Run.run (va_runV (As := [.int p0, .int p1, .int p2]) (rest := []) ⟨hx, hb, hml, hown, hg⟩ (c_X11_areGames l D y H.size mo (fmo.set 0 (.int 0)) ms fms p0 p1 p2 (px_sn (by decide) hmo_6) hms_e1) (cwV 3 hg (px_gV q_8_164 q_8_166 q_p_107 q_1_15 q_8_167) rfl rfl rfl (by decide +kernel) ⟨Nat.le_of_ble_eq_true rfl, Nat.le_of_ble_eq_true rfl⟩) (px_preV hK hPc_1 hDc_1 (ci := 11) (q0 := 0) rfl rfl) rfl rfl hl.1 rfl (lv_room (Nat.le_of_ble_eq_true rfl)) dX11_games_9 ⟨Nat.le_of_ble_eq_true rfl, Nat.le_of_ble_eq_true rfl⟩)) (fun r_1 hw_1 => ?_)
  obtain rfl : r_1 = 0 := hw_1
  refine lv_if_eq (tgt := 27) hx hb dX11_games_12 (by decide) (fun _ => ?_) (fun c_2 => absurd c_2 (by decide))
  refine lv_iconst (v := (-1)) hx hb dX11_games_27 (by decide) ?_
  exact W.iret (v := (-1)) hx hb hr (fun t ht hW => ⟨⟨_, (), rfl, rfl, trivial⟩, by subst hAe; exact hS.F ht⟩) (fun q h => by subst hAe; exact hS.2.2 q h) dX11_games_28

set_option maxHeartbeats 4000000 in
set_option maxRecDepth 100000 in
theorem c_X11_length (l : Launch) (D : va_G) (y : Nat → ClassId) (sz : Nat) (mo : Nat) (fmo : List Value) (ms : Nat) (fms : Nat → Int32) (p0 : Int32) (p1 : Int32) (p2 : Int32) (p3 : Int32) (hmo_0 : fmo[0]? = some (.int 0)) (hmo_6 : fmo[6]? = some (.ref ms)) (hms_e1 : fms 1 = 0) : Met l yX11_length (px_w yX11_length cX11_length 5 (some .int)) ({ frames := 2, cells := 0, slots := 0, locals := 45 }) (va_Pc [.ref mo, .int p0, .int p1, .int p2, .int p3] (px_P D y sz [(mo, .inr (11, fmo)), (ms, .inl (y 1, 765, .inl fms))])) (va_Qi (fun (r : Int32) (u : Unit) => r = (-1)) (fun (u : Unit) t => True) (va_A [(mo, .inr (11, fmo)), (ms, .inl (y 1, 765, .inl fms))] sz)) 0 0 (va_A [(mo, .inr (11, fmo)), (ms, .inl (y 1, 765, .inl fms))] sz) := by
  refine Met.ofW (cc := cX11_length) (maxL := 5) (ret := (some .int)) (by decide) rfl ?_
  intro p e s m args below meth c s₁ B hml hv
  obtain ⟨rfl, hsz, hP, hK, hD0⟩ := hv
  have hx := B.exec
  have hb := B.bytes
  have hr := B.returns
  have hts := atoms_spec (ws := px_w yX11_length cX11_length 5 (some .int)) B.pre
  have hg : ∀ w ∈ gw, w.before [.ref mo, .int p0, .int p1, .int p2, .int p3].toArray s = true := fun w h => hts w (List.mem_cons_of_mem _ h)
  have hown : s.vm.findClass RX11 = some m.cls := findClass_of_methodNamed B.named
  have hlocks := B.notSynchronized
  subst hsz
  have hD := hD0.self (sz := s.heap.size)
  generalize hAe : va_A [(mo, .inr (11, fmo)), (ms, .inl (y 1, 765, .inl fms))] s.heap.size = A at hD ⊢
  have hA : ∀ q : Nat, s.heap.size ≤ q → A q := fun q h => by rw [← hAe]; exact Or.inr h
  have hS : va_S A s.heap s.heap [] := va_S.rf
  have hP : va_P D vwCl [(mo, .inr (11, fmo)), (ms, .inl (y 1, 765, .inl fms))] s.heap := hP
  have hl := lv_entry ([.ref mo, .int p0, .int p1, .int p2, .int p3]) (n := 5) (Nat.le_of_ble_eq_true rfl)
  rw [lg_entry_eq]
  generalize (lg_sl ([.ref mo, .int p0, .int p1, .int p2, .int p3]) ++ List.replicate (5 - (lg_sl ([.ref mo, .int p0, .int p1, .int p2, .int p3])).length) Slot.unset).toArray = ls at hl ⊢
  have hl : lv_has ls 5 [(0, .ref mo), (1, .int p0), (2, .int p1), (3, .int p2), (4, .int p3)] := hl
  refine lv_aload_n hx hb dX11_length_0 rfl (lv_at hl 0 rfl) ?_
  refine lv_iconst (v := 0) hx hb dX11_length_1 (by decide) ?_
  refine va_put (D := D) (ci := 11) (v := .int 0) (ty := .int) (C := RX11) (T := TX11) (N := 65) hx hb hg inGX11 tyX11 tyX11_ok nmX11 hown hK hP hD hS 0 rfl rfl 0 (by decide) (hg _ q_6_126) (fun _ h9 => h9) rfl (by decide +kernel) rfl rfl (px_len hmo_0) dX11_length_2 (fun H locs hP hD hS => ?_)
  have hP : va_P D vwCl [(mo, .inr (11, (fmo.set 0 (.int 0)))), (ms, .inl (y 1, 765, .inl fms))] H := hP
  have hD : va_D A [(mo, .inr (11, (fmo.set 0 (.int 0)))), (ms, .inl (y 1, 765, .inl fms))] := hD
  refine lv_aload_n hx hb dX11_length_5 rfl (lv_at hl 0 rfl) ?_
  refine lv_iload_n hx hb dX11_length_6 rfl (lv_at hl 1 rfl) ?_
  refine lv_iload_n hx hb dX11_length_7 rfl (lv_at hl 2 rfl) ?_
  refine lv_iload_n hx hb dX11_length_8 rfl (lv_at hl 3 rfl) ?_
  have hPc_1 := hP.sub (ws' := [(mo, .inr (11, (fmo.set 0 (.int 0)))), (ms, .inl (y 1, 765, .inl fms))]) [0, 1] rfl
  have hDc_1 := hD.sub (ws' := [(mo, .inr (11, (fmo.set 0 (.int 0)))), (ms, .inl (y 1, 765, .inl fms))]) [0, 1] (by decide) rfl
  refine vp_callSi (va_Run.run (va_runV (As := [.int p0, .int p1, .int p2]) (rest := []) ⟨hx, hb, hml, hown, hg⟩ (c_X11_areGames l D y H.size mo (fmo.set 0 (.int 0)) ms fms p0 p1 p2 (px_sn (by decide) hmo_6) hms_e1) (cwV 3 hg (px_gV q_8_164 q_8_166 q_p_107 q_1_15 q_8_167) rfl rfl rfl (by decide +kernel) ⟨Nat.le_of_ble_eq_true rfl, Nat.le_of_ble_eq_true rfl⟩) (px_preV hK hPc_1 hDc_1 (ci := 11) (q0 := 0) rfl rfl) rfl rfl hl.1 rfl (lv_room (Nat.le_of_ble_eq_true rfl)) dX11_length_9 ⟨Nat.le_of_ble_eq_true rfl, Nat.le_of_ble_eq_true rfl⟩)) (fun r_1 hw_1 => ?_)
  obtain rfl : r_1 = 0 := hw_1
  refine lv_if_ne (tgt := 17) hx hb dX11_length_12 (by decide) (fun c_2 => absurd c_2 (by decide)) (fun _ => ?_)
  refine lv_iconst (v := (-1)) hx hb dX11_length_15 (by decide) ?_
  exact W.iret (v := (-1)) hx hb hr (fun t ht hW => ⟨⟨_, (), rfl, rfl, trivial⟩, by subst hAe; exact hS.F ht⟩) (fun q h => by subst hAe; exact hS.2.2 q h) dX11_length_16

set_option maxHeartbeats 4000000 in
set_option maxRecDepth 100000 in
theorem c_X11_reply (l : Launch) (D : va_G) (y : Nat → ClassId) (sz : Nat) (mo : Nat) (fmo : List Value) (ms : Nat) (fms : Nat → Int32) (p0 : Int32) (p1 : Int32) (p2 : Int32) (hmo_0 : fmo[0]? = some (.int 0)) (hmo_6 : fmo[6]? = some (.ref ms)) (hms_e1 : fms 1 = 0) : Met l yX11_reply (px_w yX11_reply cX11_reply 8 (some .int)) ({ frames := 2, cells := 0, slots := 0, locals := 45 }) (va_Pc [.ref mo, .int p0, .int p1, .int p2] (px_P D y sz [(mo, .inr (11, fmo)), (ms, .inl (y 1, 765, .inl fms))])) (va_Qi (fun (r : Int32) (u : Unit) => r = (-1)) (fun (u : Unit) t => True) (va_A [(mo, .inr (11, fmo)), (ms, .inl (y 1, 765, .inl fms))] sz)) 0 0 (va_A [(mo, .inr (11, fmo)), (ms, .inl (y 1, 765, .inl fms))] sz) := by
  refine Met.ofW (cc := cX11_reply) (maxL := 8) (ret := (some .int)) (by decide) rfl ?_
  intro p e s m args below meth c s₁ B hml hv
  obtain ⟨rfl, hsz, hP, hK, hD0⟩ := hv
  have hx := B.exec
  have hb := B.bytes
  have hr := B.returns
  have hts := atoms_spec (ws := px_w yX11_reply cX11_reply 8 (some .int)) B.pre
  have hg : ∀ w ∈ gw, w.before [.ref mo, .int p0, .int p1, .int p2].toArray s = true := fun w h => hts w (List.mem_cons_of_mem _ h)
  have hown : s.vm.findClass RX11 = some m.cls := findClass_of_methodNamed B.named
  have hlocks := B.notSynchronized
  subst hsz
  have hD := hD0.self (sz := s.heap.size)
  generalize hAe : va_A [(mo, .inr (11, fmo)), (ms, .inl (y 1, 765, .inl fms))] s.heap.size = A at hD ⊢
  have hA : ∀ q : Nat, s.heap.size ≤ q → A q := fun q h => by rw [← hAe]; exact Or.inr h
  have hS : va_S A s.heap s.heap [] := va_S.rf
  have hP : va_P D vwCl [(mo, .inr (11, fmo)), (ms, .inl (y 1, 765, .inl fms))] s.heap := hP
  have hl := lv_entry ([.ref mo, .int p0, .int p1, .int p2]) (n := 8) (Nat.le_of_ble_eq_true rfl)
  rw [lg_entry_eq]
  generalize (lg_sl ([.ref mo, .int p0, .int p1, .int p2]) ++ List.replicate (8 - (lg_sl ([.ref mo, .int p0, .int p1, .int p2])).length) Slot.unset).toArray = ls at hl ⊢
  have hl : lv_has ls 8 [(0, .ref mo), (1, .int p0), (2, .int p1), (3, .int p2)] := hl
  refine lv_aload_n hx hb dX11_reply_0 rfl (lv_at hl 0 rfl) ?_
  refine lv_iconst (v := 0) hx hb dX11_reply_1 (by decide) ?_
  refine va_put (D := D) (ci := 11) (v := .int 0) (ty := .int) (C := RX11) (T := TX11) (N := 65) hx hb hg inGX11 tyX11 tyX11_ok nmX11 hown hK hP hD hS 0 rfl rfl 0 (by decide) (hg _ q_6_126) (fun _ h9 => h9) rfl (by decide +kernel) rfl rfl (px_len hmo_0) dX11_reply_2 (fun H locs hP hD hS => ?_)
  have hP : va_P D vwCl [(mo, .inr (11, (fmo.set 0 (.int 0)))), (ms, .inl (y 1, 765, .inl fms))] H := hP
  have hD : va_D A [(mo, .inr (11, (fmo.set 0 (.int 0)))), (ms, .inl (y 1, 765, .inl fms))] := hD
  refine lv_aload_n hx hb dX11_reply_5 rfl (lv_at hl 0 rfl) ?_
  refine lv_iconst (v := 0) hx hb dX11_reply_6 (by decide) ?_
  refine lv_iload_n hx hb dX11_reply_7 rfl (lv_at hl 1 rfl) ?_
  refine lv_iload_n hx hb dX11_reply_8 rfl (lv_at hl 2 rfl) ?_
  have hPc_1 := hP.sub (ws' := [(mo, .inr (11, (fmo.set 0 (.int 0)))), (ms, .inl (y 1, 765, .inl fms))]) [0, 1] rfl
  have hDc_1 := hD.sub (ws' := [(mo, .inr (11, (fmo.set 0 (.int 0)))), (ms, .inl (y 1, 765, .inl fms))]) [0, 1] (by decide) rfl
  refine vp_callSi (va_Run.run (va_runV (As := [.int 0, .int p0, .int p1]) (rest := []) ⟨hx, hb, hml, hown, hg⟩ (c_X11_areGames l D y H.size mo (fmo.set 0 (.int 0)) ms fms 0 p0 p1 (px_sn (by decide) hmo_6) hms_e1) (cwV 3 hg (px_gV q_8_164 q_8_166 q_p_107 q_1_15 q_8_167) rfl rfl rfl (by decide +kernel) ⟨Nat.le_of_ble_eq_true rfl, Nat.le_of_ble_eq_true rfl⟩) (px_preV hK hPc_1 hDc_1 (ci := 11) (q0 := 0) rfl rfl) rfl rfl hl.1 rfl (lv_room (Nat.le_of_ble_eq_true rfl)) dX11_reply_9 ⟨Nat.le_of_ble_eq_true rfl, Nat.le_of_ble_eq_true rfl⟩)) (fun r_1 hw_1 => ?_)
  obtain rfl : r_1 = 0 := hw_1
  refine lv_if_ne (tgt := 17) hx hb dX11_reply_12 (by decide) (fun c_2 => absurd c_2 (by decide)) (fun _ => ?_)
  refine lv_iconst (v := (-1)) hx hb dX11_reply_15 (by decide) ?_
  exact W.iret (v := (-1)) hx hb hr (fun t ht hW => ⟨⟨_, (), rfl, rfl, trivial⟩, by subst hAe; exact hS.F ht⟩) (fun q h => by subst hAe; exact hS.2.2 q h) dX11_reply_16

set_option maxHeartbeats 4000000 in
set_option maxRecDepth 100000 in
theorem c_X11_restore (l : Launch) (D : va_G) (y : Nat → ClassId) (sz : Nat) (mo : Nat) (fmo : List Value) (mk : Nat) (fmk : Nat → Int32) (p0 : Int32) (hmo_0 : fmo[0]? = some (.int 0)) (hmo_64 : fmo[64]? = some (.ref mk)) (hmk_e0 : fmk 0 = 0) (hmk_e1 : fmk 1 = 0) : Met l yX11_restore (px_w yX11_restore cX11_restore 3 (some .boolean)) ({ frames := 1, cells := 0, slots := 0, locals := 22 }) (va_Pc [.ref mo, .int p0] (px_P D y sz [(mo, .inr (11, fmo)), (mk, .inl (y 3, 2, .inl fmk))])) (va_Qi (fun (r : Int32) (u : Unit) => r = 0) (fun (u : Unit) t => True) (va_A [(mo, .inr (11, fmo)), (mk, .inl (y 3, 2, .inl fmk))] sz)) 0 0 (va_A [(mo, .inr (11, fmo)), (mk, .inl (y 3, 2, .inl fmk))] sz) := by
  refine Met.ofW (cc := cX11_restore) (maxL := 3) (ret := (some .boolean)) (by decide) rfl ?_
  intro p e s m args below meth c s₁ B hml hv
  obtain ⟨rfl, hsz, hP, hK, hD0⟩ := hv
  have hx := B.exec
  have hb := B.bytes
  have hr := B.returns
  have hts := atoms_spec (ws := px_w yX11_restore cX11_restore 3 (some .boolean)) B.pre
  have hg : ∀ w ∈ gw, w.before [.ref mo, .int p0].toArray s = true := fun w h => hts w (List.mem_cons_of_mem _ h)
  have hown : s.vm.findClass RX11 = some m.cls := findClass_of_methodNamed B.named
  have hlocks := B.notSynchronized
  subst hsz
  have hD := hD0.self (sz := s.heap.size)
  generalize hAe : va_A [(mo, .inr (11, fmo)), (mk, .inl (y 3, 2, .inl fmk))] s.heap.size = A at hD ⊢
  have hA : ∀ q : Nat, s.heap.size ≤ q → A q := fun q h => by rw [← hAe]; exact Or.inr h
  have hS : va_S A s.heap s.heap [] := va_S.rf
  have hP : va_P D vwCl [(mo, .inr (11, fmo)), (mk, .inl (y 3, 2, .inl fmk))] s.heap := hP
  have hl := lv_entry ([.ref mo, .int p0]) (n := 3) (Nat.le_of_ble_eq_true rfl)
  rw [lg_entry_eq]
  generalize (lg_sl ([.ref mo, .int p0]) ++ List.replicate (3 - (lg_sl ([.ref mo, .int p0])).length) Slot.unset).toArray = ls at hl ⊢
  have hl : lv_has ls 3 [(0, .ref mo), (1, .int p0)] := hl
  refine lv_aload_n hx hb dX11_restore_0 rfl (lv_at hl 0 rfl) ?_
  refine lv_iconst (v := 0) hx hb dX11_restore_1 (by decide) ?_
  refine va_put (D := D) (ci := 11) (v := .int 0) (ty := .int) (C := RX11) (T := TX11) (N := 65) hx hb hg inGX11 tyX11 tyX11_ok nmX11 hown hK hP hD hS 0 rfl rfl 0 (by decide) (hg _ q_6_126) (fun _ h9 => h9) rfl (by decide +kernel) rfl rfl (px_len hmo_0) dX11_restore_2 (fun H locs hP hD hS => ?_)
  have hP : va_P D vwCl [(mo, .inr (11, (fmo.set 0 (.int 0)))), (mk, .inl (y 3, 2, .inl fmk))] H := hP
  have hD : va_D A [(mo, .inr (11, (fmo.set 0 (.int 0)))), (mk, .inl (y 3, 2, .inl fmk))] := hD
  refine lv_iload_n hx hb dX11_restore_5 rfl (lv_at hl 1 rfl) ?_
  refine lv_iconst (v := 0) hx hb dX11_restore_6 (by decide) ?_
  refine lv_iconst (v := 1) hx hb dX11_restore_7 (by decide) ?_
  have hPc_1 := hP.sub (ws' := []) [] rfl
  have hDc_1 := hD.sub (ws' := []) [] (by decide) rfl
  refine vp_callSi (va_Run.run (va_runS (As := [.int p0, .int 0, .int 1]) (rest := []) ⟨hx, hb, hml, hown, hg⟩ (c_X11_isIn l D y H.size p0 0 1 ) (va_cwS 3 hg (px_gS q_7_121 q_7_122 q_1_15 q_7_123) rfl rfl rfl (by decide +kernel) ⟨Nat.le_of_ble_eq_true rfl, Nat.le_of_ble_eq_true rfl⟩) (px_preS hK hPc_1 hDc_1) rfl rfl hl.1 rfl (lv_room (Nat.le_of_ble_eq_true rfl)) dX11_restore_8 ⟨Nat.le_of_ble_eq_true rfl, Nat.le_of_ble_eq_true rfl⟩)) (fun r_1 hw_1 => ?_)
  rcases hw_1 with ⟨rfl, g_1_0_0, g_1_0_1⟩ | ⟨rfl, g_1_1_0⟩ | ⟨rfl, g_1_2_0⟩
  · refine lv_if_eq (tgt := 23) hx hb dX11_restore_11 (by decide) (fun c_2 => absurd c_2 (by decide)) (fun _ => ?_)
    refine lv_aload_n hx hb dX11_restore_14 rfl (lv_at hl 0 rfl) ?_
    refine va_get (D := D) (ci := 11) (v := .ref mk) (C := RX11) (T := TX11) (N := 65) hx hb hg inGX11 hown hK hP 0 rfl rfl 64 (by decide) (hg _ q_6_190) (fun _ h9 => h9) (px_sn (by decide) hmo_64) dX11_restore_15 ?_
    refine lv_iload_n hx hb dX11_restore_18 rfl (lv_at hl 1 rfl) ?_
    obtain ⟨j_3, hj_3, ej_3⟩ := px_split (x := p0) (n := 1) (by decide) (by simp only [Int32.lt_iff_toInt_lt, Int32.le_iff_toInt_le, ← Int32.toInt_inj] at g_1_0_0 g_1_0_1; have e0 : (0 : Int32).toInt = 0 := rfl; have e1 : (1 : Int32).toInt = 1 := rfl; omega) (by simp only [Int32.lt_iff_toInt_lt, Int32.le_iff_toInt_le, ← Int32.toInt_inj] at g_1_0_0 g_1_0_1; have e0 : (0 : Int32).toInt = 0 := rfl; have e1 : (1 : Int32).toInt = 1 := rfl; omega)
    rcases (show j_3 = 0 ∨ j_3 = 1 by omega) with rfl | rfl
    · obtain rfl : p0 = 0 := ej_3
      refine va_zald hx hb hK hP 1 3 rfl rfl (i := 0) (px_in (by decide)) dX11_restore_19 ?_
      refine px_top (v := 0) hmk_e0 ?_
      refine lv_if_ne (tgt := 25) hx hb dX11_restore_20 (by decide) (fun c_4 => absurd c_4 (by decide)) (fun _ => ?_)
      refine lv_iconst (v := 0) hx hb dX11_restore_23 (by decide) ?_
      exact W.zret (v := 0) hx hb hr (by decide) (fun t ht hW => ⟨⟨_, (), rfl, rfl, trivial⟩, by subst hAe; exact hS.F ht⟩) (fun q h => by subst hAe; exact hS.2.2 q h) dX11_restore_24
    · obtain rfl : p0 = 1 := ej_3
      refine va_zald hx hb hK hP 1 3 rfl rfl (i := 1) (px_in (by decide)) dX11_restore_19 ?_
      refine px_top (v := 0) hmk_e1 ?_
      refine lv_if_ne (tgt := 25) hx hb dX11_restore_20 (by decide) (fun c_5 => absurd c_5 (by decide)) (fun _ => ?_)
      refine lv_iconst (v := 0) hx hb dX11_restore_23 (by decide) ?_
      exact W.zret (v := 0) hx hb hr (by decide) (fun t ht hW => ⟨⟨_, (), rfl, rfl, trivial⟩, by subst hAe; exact hS.F ht⟩) (fun q h => by subst hAe; exact hS.2.2 q h) dX11_restore_24
  · refine lv_if_eq (tgt := 23) hx hb dX11_restore_11 (by decide) (fun _ => ?_) (fun c_6 => absurd c_6 (by decide))
    refine lv_iconst (v := 0) hx hb dX11_restore_23 (by decide) ?_
    exact W.zret (v := 0) hx hb hr (by decide) (fun t ht hW => ⟨⟨_, (), rfl, rfl, trivial⟩, by subst hAe; exact hS.F ht⟩) (fun q h => by subst hAe; exact hS.2.2 q h) dX11_restore_24
  · refine lv_if_eq (tgt := 23) hx hb dX11_restore_11 (by decide) (fun _ => ?_) (fun c_7 => absurd c_7 (by decide))
    refine lv_iconst (v := 0) hx hb dX11_restore_23 (by decide) ?_
    exact W.zret (v := 0) hx hb hr (by decide) (fun t ht hW => ⟨⟨_, (), rfl, rfl, trivial⟩, by subst hAe; exact hS.F ht⟩) (fun q h => by subst hAe; exact hS.2.2 q h) dX11_restore_24

set_option maxHeartbeats 4000000 in
set_option maxRecDepth 100000 in
theorem c_X11_openOf (l : Launch) (D : va_G) (y : Nat → ClassId) (sz : Nat) (mo : Nat) (fmo : List Value) (ms : Nat) (fms : Nat → Int32) (hmo_6 : fmo[6]? = some (.ref ms)) (hmo_47 : fmo[47]? = some (.int 0)) (hms_e1 : fms 1 = 0) : Met l yX11_openOf (px_w yX11_openOf cX11_openOf 5 (some .int)) ({ frames := 0, cells := 0, slots := 0, locals := 0 }) (va_Pc [.ref mo] (px_P D y sz [(mo, .inr (11, fmo)), (ms, .inl (y 1, 765, .inl fms))])) (va_Qi (fun (r : Int32) (u : Unit) => r = (-101)) (fun (u : Unit) t => va_P D vwCl [(mo, .inr (11, (fmo.set 47 (.int (-1))))), (ms, .inl (y 1, 765, .inl fms))] t.heap ∧ va_D (va_A [(mo, .inr (11, fmo)), (ms, .inl (y 1, 765, .inl fms))] sz) [(mo, .inr (11, (fmo.set 47 (.int (-1))))), (ms, .inl (y 1, 765, .inl fms))]) (va_A [(mo, .inr (11, fmo)), (ms, .inl (y 1, 765, .inl fms))] sz)) 0 0 (va_A [(mo, .inr (11, fmo)), (ms, .inl (y 1, 765, .inl fms))] sz) := by
  refine Met.ofW (cc := cX11_openOf) (maxL := 5) (ret := (some .int)) (by decide) rfl ?_
  intro p e s m args below meth c s₁ B hml hv
  obtain ⟨rfl, hsz, hP, hK, hD0⟩ := hv
  have hx := B.exec
  have hb := B.bytes
  have hr := B.returns
  have hts := atoms_spec (ws := px_w yX11_openOf cX11_openOf 5 (some .int)) B.pre
  have hg : ∀ w ∈ gw, w.before [.ref mo].toArray s = true := fun w h => hts w (List.mem_cons_of_mem _ h)
  have hown : s.vm.findClass RX11 = some m.cls := findClass_of_methodNamed B.named
  have hlocks := B.notSynchronized
  subst hsz
  have hD := hD0.self (sz := s.heap.size)
  generalize hAe : va_A [(mo, .inr (11, fmo)), (ms, .inl (y 1, 765, .inl fms))] s.heap.size = A at hD ⊢
  have hA : ∀ q : Nat, s.heap.size ≤ q → A q := fun q h => by rw [← hAe]; exact Or.inr h
  have hS : va_S A s.heap s.heap [] := va_S.rf
  have hP : va_P D vwCl [(mo, .inr (11, fmo)), (ms, .inl (y 1, 765, .inl fms))] s.heap := hP
  have hl := lv_entry ([.ref mo]) (n := 5) (Nat.le_of_ble_eq_true rfl)
  rw [lg_entry_eq]
  generalize (lg_sl ([.ref mo]) ++ List.replicate (5 - (lg_sl ([.ref mo])).length) Slot.unset).toArray = ls at hl ⊢
  have hl : lv_has ls 5 [(0, .ref mo)] := hl
  refine lv_aload_n hx hb dX11_openOf_0 rfl (lv_at hl 0 rfl) ?_
  refine lv_iconst (v := (-1)) hx hb dX11_openOf_1 (by decide) ?_
  refine va_put (D := D) (ci := 11) (v := .int (-1)) (ty := .int) (C := RX11) (T := TX11) (N := 65) hx hb hg inGX11 tyX11 tyX11_ok nmX11 hown hK hP hD hS 0 rfl rfl 47 (by decide) (hg _ q_6_173) (fun _ h9 => h9) rfl (by decide +kernel) rfl rfl (px_len hmo_47) dX11_openOf_2 (fun H locs hP hD hS => ?_)
  have hP : va_P D vwCl [(mo, .inr (11, (fmo.set 47 (.int (-1))))), (ms, .inl (y 1, 765, .inl fms))] H := hP
  have hD : va_D A [(mo, .inr (11, (fmo.set 47 (.int (-1))))), (ms, .inl (y 1, 765, .inl fms))] := hD
  refine lv_aload_n hx hb dX11_openOf_5 rfl (lv_at hl 0 rfl) ?_
  refine va_get (D := D) (ci := 11) (v := .ref ms) (C := RX11) (T := TX11) (N := 65) hx hb hg inGX11 hown hK hP 0 rfl rfl 6 (by decide) (hg _ q_6_132) (fun _ h9 => h9) (px_sn (by decide) hmo_6) dX11_openOf_6 ?_
  refine lv_iconst (v := 1) hx hb dX11_openOf_9 (by decide) ?_
  refine va_iald hx hb hK hP 1 1 rfl rfl (i := 1) (px_in (by decide)) dX11_openOf_10 ?_
  refine px_top (v := 0) hms_e1 ?_
  refine lv_iconst (v := 2) hx hb dX11_openOf_11 (by decide) ?_
  refine lv_icmp_ne (tgt := 46) hx hb dX11_openOf_12 (by decide) (fun _ => ?_) (fun c_1 => absurd c_1 (by decide))
  refine lv_bipush (v := (-101)) hx hb dX11_openOf_46 (by decide) ?_
  have hP9 := hP.sub (ws' := [(mo, .inr (11, (fmo.set 47 (.int (-1))))), (ms, .inl (y 1, 765, .inl fms))]) [0, 1] rfl
  have hD9 := hD.sub (ws' := [(mo, .inr (11, (fmo.set 47 (.int (-1))))), (ms, .inl (y 1, 765, .inl fms))]) [0, 1] (by decide) rfl
  exact W.iret (v := (-101)) hx hb hr (fun t ht hW => ⟨⟨_, (), rfl, rfl, by rw [ht]; exact hP9, by subst hAe; exact hD9⟩, by subst hAe; exact hS.F ht⟩) (fun q h => by subst hAe; exact hS.2.2 q h) dX11_openOf_48

set_option maxHeartbeats 4000000 in
set_option maxRecDepth 100000 in
theorem c_X11_open (l : Launch) (D : va_G) (y : Nat → ClassId) (sz : Nat) (mo : Nat) (fmo : List Value) (ms : Nat) (fms : Nat → Int32) (hmo_0 : fmo[0]? = some (.int 0)) (hmo_6 : fmo[6]? = some (.ref ms)) (hmo_47 : fmo[47]? = some (.int 0)) (hms_e1 : fms 1 = 0) : Met l yX11_open (px_w yX11_open cX11_open 1 (some .int)) ({ frames := 1, cells := 0, slots := 0, locals := 24 }) (va_Pc [.ref mo] (px_P D y sz [(mo, .inr (11, fmo)), (ms, .inl (y 1, 765, .inl fms))])) (va_Qi (fun (r : Int32) (u : Unit) => r = (-101)) (fun (u : Unit) t => True) (va_A [(mo, .inr (11, fmo)), (ms, .inl (y 1, 765, .inl fms))] sz)) 0 0 (va_A [(mo, .inr (11, fmo)), (ms, .inl (y 1, 765, .inl fms))] sz) := by
  refine Met.ofW (cc := cX11_open) (maxL := 1) (ret := (some .int)) (by decide) rfl ?_
  intro p e s m args below meth c s₁ B hml hv
  obtain ⟨rfl, hsz, hP, hK, hD0⟩ := hv
  have hx := B.exec
  have hb := B.bytes
  have hr := B.returns
  have hts := atoms_spec (ws := px_w yX11_open cX11_open 1 (some .int)) B.pre
  have hg : ∀ w ∈ gw, w.before [.ref mo].toArray s = true := fun w h => hts w (List.mem_cons_of_mem _ h)
  have hown : s.vm.findClass RX11 = some m.cls := findClass_of_methodNamed B.named
  have hlocks := B.notSynchronized
  subst hsz
  have hD := hD0.self (sz := s.heap.size)
  generalize hAe : va_A [(mo, .inr (11, fmo)), (ms, .inl (y 1, 765, .inl fms))] s.heap.size = A at hD ⊢
  have hA : ∀ q : Nat, s.heap.size ≤ q → A q := fun q h => by rw [← hAe]; exact Or.inr h
  have hS : va_S A s.heap s.heap [] := va_S.rf
  have hP : va_P D vwCl [(mo, .inr (11, fmo)), (ms, .inl (y 1, 765, .inl fms))] s.heap := hP
  have hl := lv_entry ([.ref mo]) (n := 1) (Nat.le_of_ble_eq_true rfl)
  rw [lg_entry_eq]
  generalize (lg_sl ([.ref mo]) ++ List.replicate (1 - (lg_sl ([.ref mo])).length) Slot.unset).toArray = ls at hl ⊢
  have hl : lv_has ls 1 [(0, .ref mo)] := hl
  refine lv_aload_n hx hb dX11_open_0 rfl (lv_at hl 0 rfl) ?_
  refine lv_iconst (v := 0) hx hb dX11_open_1 (by decide) ?_
  refine va_put (D := D) (ci := 11) (v := .int 0) (ty := .int) (C := RX11) (T := TX11) (N := 65) hx hb hg inGX11 tyX11 tyX11_ok nmX11 hown hK hP hD hS 0 rfl rfl 0 (by decide) (hg _ q_6_126) (fun _ h9 => h9) rfl (by decide +kernel) rfl rfl (px_len hmo_0) dX11_open_2 (fun H locs hP hD hS => ?_)
  have hP : va_P D vwCl [(mo, .inr (11, (fmo.set 0 (.int 0)))), (ms, .inl (y 1, 765, .inl fms))] H := hP
  have hD : va_D A [(mo, .inr (11, (fmo.set 0 (.int 0)))), (ms, .inl (y 1, 765, .inl fms))] := hD
  refine lv_aload_n hx hb dX11_open_5 rfl (lv_at hl 0 rfl) ?_
  have hPc_1 := hP.sub (ws' := [(mo, .inr (11, (fmo.set 0 (.int 0)))), (ms, .inl (y 1, 765, .inl fms))]) [0, 1] rfl
  have hDc_1 := hD.sub (ws' := [(mo, .inr (11, (fmo.set 0 (.int 0)))), (ms, .inl (y 1, 765, .inl fms))]) [0, 1] (by decide) rfl
  have hFc_1 := va_free (wc := [(mo, .inr (11, (fmo.set 0 (.int 0)))), (ms, .inl (y 1, 765, .inl fms))]) hD hS hA [0, 1] rfl
  refine va_calli (va_runV (As := []) (rest := []) ⟨hx, hb, hml, hown, hg⟩ (c_X11_openOf l D y H.size mo (fmo.set 0 (.int 0)) ms fms (px_sn (by decide) hmo_6) (px_sn (by decide) hmo_47) hms_e1) (cwV 0 hg (px_gV q_8_89 q_8_91 q_p_95 q_1_15 q_8_92) rfl rfl rfl (by decide +kernel) ⟨Nat.le_of_ble_eq_true rfl, Nat.le_of_ble_eq_true rfl⟩) (px_preV hK hPc_1 hDc_1 (ci := 11) (q0 := 0) rfl rfl) rfl rfl hl.1 rfl (lv_room (Nat.le_of_ble_eq_true rfl)) dX11_open_6 ⟨Nat.le_of_ble_eq_true rfl, Nat.le_of_ble_eq_true rfl⟩) hS (fun q _ h => hFc_1 q h) hFc_1 (fun r_1 u_1 t_1 H1 locs ht_1 hvm_1 hw_1 hB_1 hz_1 hk_1 hS => ?_)
  refine W.cs (cells' := 0) (slots' := 0) rfl rfl ?_
  obtain ⟨hP1_1, hD1_1⟩ := hB_1
  rw [ht_1] at hP1_1
  obtain ⟨hP, hD⟩ := va_join (wr := []) (w1 := [(mo, .inr (11, ((fmo.set 0 (.int 0)).set 47 (.int (-1))))), (ms, .inl (y 1, 765, .inl fms))]) hP hD [0, 1] [] rfl rfl (by decide) (by decide) hk_1 hFc_1 hP1_1 hD1_1
  generalize H1 = H at hP hS ⊢
  have hP : va_P D vwCl [(mo, .inr (11, ((fmo.set 0 (.int 0)).set 47 (.int (-1))))), (ms, .inl (y 1, 765, .inl fms))] H := hP
  have hD : va_D A [(mo, .inr (11, ((fmo.set 0 (.int 0)).set 47 (.int (-1))))), (ms, .inl (y 1, 765, .inl fms))] := hD
  obtain rfl : r_1 = (-101) := hw_1
  exact W.iret (v := (-101)) hx hb hr (fun t ht hW => ⟨⟨_, (), rfl, rfl, trivial⟩, by subst hAe; exact hS.F ht⟩) (fun q h => by subst hAe; exact hS.2.2 q h) dX11_open_9

set_option maxHeartbeats 4000000 in
set_option maxRecDepth 100000 in
theorem c_X11_first (l : Launch) (D : va_G) (y : Nat → ClassId) (sz : Nat) (mo : Nat) (fmo : List Value) (ms : Nat) (fms : Nat → Int32) (hmo_0 : fmo[0]? = some (.int 0)) (hmo_6 : fmo[6]? = some (.ref ms)) (hmo_47 : fmo[47]? = some (.int 0)) (hms_e1 : fms 1 = 0) : Met l yX11_first (px_w yX11_first cX11_first 1 (some .int)) ({ frames := 1, cells := 0, slots := 0, locals := 24 }) (va_Pc [.ref mo] (px_P D y sz [(mo, .inr (11, fmo)), (ms, .inl (y 1, 765, .inl fms))])) (va_Qi (fun (r : Int32) (u : Unit) => r = (-1)) (fun (u : Unit) t => True) (va_A [(mo, .inr (11, fmo)), (ms, .inl (y 1, 765, .inl fms))] sz)) 0 0 (va_A [(mo, .inr (11, fmo)), (ms, .inl (y 1, 765, .inl fms))] sz) := by
  refine Met.ofW (cc := cX11_first) (maxL := 1) (ret := (some .int)) (by decide) rfl ?_
  intro p e s m args below meth c s₁ B hml hv
  obtain ⟨rfl, hsz, hP, hK, hD0⟩ := hv
  have hx := B.exec
  have hb := B.bytes
  have hr := B.returns
  have hts := atoms_spec (ws := px_w yX11_first cX11_first 1 (some .int)) B.pre
  have hg : ∀ w ∈ gw, w.before [.ref mo].toArray s = true := fun w h => hts w (List.mem_cons_of_mem _ h)
  have hown : s.vm.findClass RX11 = some m.cls := findClass_of_methodNamed B.named
  have hlocks := B.notSynchronized
  subst hsz
  have hD := hD0.self (sz := s.heap.size)
  generalize hAe : va_A [(mo, .inr (11, fmo)), (ms, .inl (y 1, 765, .inl fms))] s.heap.size = A at hD ⊢
  have hA : ∀ q : Nat, s.heap.size ≤ q → A q := fun q h => by rw [← hAe]; exact Or.inr h
  have hS : va_S A s.heap s.heap [] := va_S.rf
  have hP : va_P D vwCl [(mo, .inr (11, fmo)), (ms, .inl (y 1, 765, .inl fms))] s.heap := hP
  have hl := lv_entry ([.ref mo]) (n := 1) (Nat.le_of_ble_eq_true rfl)
  rw [lg_entry_eq]
  generalize (lg_sl ([.ref mo]) ++ List.replicate (1 - (lg_sl ([.ref mo])).length) Slot.unset).toArray = ls at hl ⊢
  have hl : lv_has ls 1 [(0, .ref mo)] := hl
  refine lv_aload_n hx hb dX11_first_0 rfl (lv_at hl 0 rfl) ?_
  refine lv_iconst (v := 0) hx hb dX11_first_1 (by decide) ?_
  refine va_put (D := D) (ci := 11) (v := .int 0) (ty := .int) (C := RX11) (T := TX11) (N := 65) hx hb hg inGX11 tyX11 tyX11_ok nmX11 hown hK hP hD hS 0 rfl rfl 0 (by decide) (hg _ q_6_126) (fun _ h9 => h9) rfl (by decide +kernel) rfl rfl (px_len hmo_0) dX11_first_2 (fun H locs hP hD hS => ?_)
  have hP : va_P D vwCl [(mo, .inr (11, (fmo.set 0 (.int 0)))), (ms, .inl (y 1, 765, .inl fms))] H := hP
  have hD : va_D A [(mo, .inr (11, (fmo.set 0 (.int 0)))), (ms, .inl (y 1, 765, .inl fms))] := hD
  refine lv_aload_n hx hb dX11_first_5 rfl (lv_at hl 0 rfl) ?_
  have hPc_1 := hP.sub (ws' := [(mo, .inr (11, (fmo.set 0 (.int 0)))), (ms, .inl (y 1, 765, .inl fms))]) [0, 1] rfl
  have hDc_1 := hD.sub (ws' := [(mo, .inr (11, (fmo.set 0 (.int 0)))), (ms, .inl (y 1, 765, .inl fms))]) [0, 1] (by decide) rfl
  have hFc_1 := va_free (wc := [(mo, .inr (11, (fmo.set 0 (.int 0)))), (ms, .inl (y 1, 765, .inl fms))]) hD hS hA [0, 1] rfl
  refine va_calli (va_runV (As := []) (rest := []) ⟨hx, hb, hml, hown, hg⟩ (c_X11_openOf l D y H.size mo (fmo.set 0 (.int 0)) ms fms (px_sn (by decide) hmo_6) (px_sn (by decide) hmo_47) hms_e1) (cwV 0 hg (px_gV q_8_89 q_8_91 q_p_95 q_1_15 q_8_92) rfl rfl rfl (by decide +kernel) ⟨Nat.le_of_ble_eq_true rfl, Nat.le_of_ble_eq_true rfl⟩) (px_preV hK hPc_1 hDc_1 (ci := 11) (q0 := 0) rfl rfl) rfl rfl hl.1 rfl (lv_room (Nat.le_of_ble_eq_true rfl)) dX11_first_6 ⟨Nat.le_of_ble_eq_true rfl, Nat.le_of_ble_eq_true rfl⟩) hS (fun q _ h => hFc_1 q h) hFc_1 (fun r_1 u_1 t_1 H1 locs ht_1 hvm_1 hw_1 hB_1 hz_1 hk_1 hS => ?_)
  refine W.cs (cells' := 0) (slots' := 0) rfl rfl ?_
  obtain ⟨hP1_1, hD1_1⟩ := hB_1
  rw [ht_1] at hP1_1
  obtain ⟨hP, hD⟩ := va_join (wr := []) (w1 := [(mo, .inr (11, ((fmo.set 0 (.int 0)).set 47 (.int (-1))))), (ms, .inl (y 1, 765, .inl fms))]) hP hD [0, 1] [] rfl rfl (by decide) (by decide) hk_1 hFc_1 hP1_1 hD1_1
  generalize H1 = H at hP hS ⊢
  have hP : va_P D vwCl [(mo, .inr (11, ((fmo.set 0 (.int 0)).set 47 (.int (-1))))), (ms, .inl (y 1, 765, .inl fms))] H := hP
  have hD : va_D A [(mo, .inr (11, ((fmo.set 0 (.int 0)).set 47 (.int (-1))))), (ms, .inl (y 1, 765, .inl fms))] := hD
  obtain rfl : r_1 = (-101) := hw_1
  refine lv_bipush (v := (-101)) hx hb dX11_first_9 (by decide) ?_
  refine lv_icmp_ne (tgt := 18) hx hb dX11_first_11 (by decide) (fun c_2 => absurd c_2 (by decide)) (fun _ => ?_)
  refine lv_iconst (v := (-1)) hx hb dX11_first_14 (by decide) ?_
  refine lv_goto (tgt := 22) hx hb dX11_first_15 (by decide) ?_
  exact W.iret (v := (-1)) hx hb hr (fun t ht hW => ⟨⟨_, (), rfl, rfl, trivial⟩, by subst hAe; exact hS.F ht⟩) (fun q h => by subst hAe; exact hS.2.2 q h) dX11_first_22

set_option maxHeartbeats 4000000 in
set_option maxRecDepth 100000 in
theorem c_X11_end (l : Launch) (D : va_G) (y : Nat → ClassId) (sz : Nat) (mo : Nat) (fmo : List Value) (p0 : Int32) (hmo_0 : fmo[0]? = some (.int 0)) (hmo_2 : fmo[2]? = some (.int 0)) : Met l yX11_end (px_w yX11_end cX11_end 2 (some .boolean)) ({ frames := 0, cells := 0, slots := 0, locals := 0 }) (va_Pc [.ref mo, .int p0] (px_P D y sz [(mo, .inr (11, fmo))])) (va_Qi (fun (r : Int32) (u : Unit) => r = px_is0 p0) (fun (u : Unit) t => True) (va_A [(mo, .inr (11, fmo))] sz)) 0 0 (va_A [(mo, .inr (11, fmo))] sz) := by
  refine Met.ofW (cc := cX11_end) (maxL := 2) (ret := (some .boolean)) (by decide) rfl ?_
  intro p e s m args below meth c s₁ B hml hv
  obtain ⟨rfl, hsz, hP, hK, hD0⟩ := hv
  have hx := B.exec
  have hb := B.bytes
  have hr := B.returns
  have hts := atoms_spec (ws := px_w yX11_end cX11_end 2 (some .boolean)) B.pre
  have hg : ∀ w ∈ gw, w.before [.ref mo, .int p0].toArray s = true := fun w h => hts w (List.mem_cons_of_mem _ h)
  have hown : s.vm.findClass RX11 = some m.cls := findClass_of_methodNamed B.named
  have hlocks := B.notSynchronized
  subst hsz
  have hD := hD0.self (sz := s.heap.size)
  generalize hAe : va_A [(mo, .inr (11, fmo))] s.heap.size = A at hD ⊢
  have hA : ∀ q : Nat, s.heap.size ≤ q → A q := fun q h => by rw [← hAe]; exact Or.inr h
  have hS : va_S A s.heap s.heap [] := va_S.rf
  have hP : va_P D vwCl [(mo, .inr (11, fmo))] s.heap := hP
  have hl := lv_entry ([.ref mo, .int p0]) (n := 2) (Nat.le_of_ble_eq_true rfl)
  rw [lg_entry_eq]
  generalize (lg_sl ([.ref mo, .int p0]) ++ List.replicate (2 - (lg_sl ([.ref mo, .int p0])).length) Slot.unset).toArray = ls at hl ⊢
  have hl : lv_has ls 2 [(0, .ref mo), (1, .int p0)] := hl
  refine lv_aload_n hx hb dX11_end_0 rfl (lv_at hl 0 rfl) ?_
  refine lv_iconst (v := 0) hx hb dX11_end_1 (by decide) ?_
  refine va_put (D := D) (ci := 11) (v := .int 0) (ty := .int) (C := RX11) (T := TX11) (N := 65) hx hb hg inGX11 tyX11 tyX11_ok nmX11 hown hK hP hD hS 0 rfl rfl 0 (by decide) (hg _ q_6_126) (fun _ h9 => h9) rfl (by decide +kernel) rfl rfl (px_len hmo_0) dX11_end_2 (fun H locs hP hD hS => ?_)
  have hP : va_P D vwCl [(mo, .inr (11, (fmo.set 0 (.int 0))))] H := hP
  have hD : va_D A [(mo, .inr (11, (fmo.set 0 (.int 0))))] := hD
  refine lv_iload_n hx hb dX11_end_5 rfl (lv_at hl 1 rfl) ?_
  refine lv_if_lt (tgt := 17) hx hb dX11_end_6 (by decide) (fun c_1 => ?_) (fun c_1 => ?_)
  · refine lv_iconst (v := 0) hx hb dX11_end_17 (by decide) ?_
    exact W.zret (v := 0) hx hb hr (by decide) (fun t ht hW => ⟨⟨_, (), rfl, (by show _ = px_is0 p0; unfold px_is0; simp only [Int32.lt_iff_toInt_lt, Int32.le_iff_toInt_le, ← Int32.toInt_inj] at c_1; have e0 : (0 : Int32).toInt = 0 := rfl; first | (rw [if_pos (by omega)]; done) | (rw [if_neg (by omega)]; done)), trivial⟩, by subst hAe; exact hS.F ht⟩) (fun q h => by subst hAe; exact hS.2.2 q h) dX11_end_18
  · refine lv_iload_n hx hb dX11_end_9 rfl (lv_at hl 1 rfl) ?_
    refine lv_aload_n hx hb dX11_end_10 rfl (lv_at hl 0 rfl) ?_
    refine va_get (D := D) (ci := 11) (v := .int 0) (C := RX11) (T := TX11) (N := 65) hx hb hg inGX11 hown hK hP 0 rfl rfl 2 (by decide) (hg _ q_6_128) (fun _ h9 => h9) (px_sn (by decide) hmo_2) dX11_end_11 ?_
    refine lv_icmp_le (tgt := 19) hx hb dX11_end_14 (by decide) (fun c_2 => ?_) (fun c_2 => ?_)
    · refine lv_aload_n hx hb dX11_end_19 rfl (lv_at hl 0 rfl) ?_
      refine lv_iload_n hx hb dX11_end_20 rfl (lv_at hl 1 rfl) ?_
      refine va_put (D := D) (ci := 11) (v := .int p0) (ty := .int) (C := RX11) (T := TX11) (N := 65) hx hb hg inGX11 tyX11 tyX11_ok nmX11 hown hK hP hD hS 0 rfl rfl 2 (by decide) (hg _ q_6_128) (fun _ h9 => h9) rfl (by decide +kernel) rfl rfl (px_len (px_sn (by decide) hmo_2)) dX11_end_21 (fun H locs hP hD hS => ?_)
      have hP : va_P D vwCl [(mo, .inr (11, ((fmo.set 0 (.int 0)).set 2 (.int p0))))] H := hP
      have hD : va_D A [(mo, .inr (11, ((fmo.set 0 (.int 0)).set 2 (.int p0))))] := hD
      refine lv_iconst (v := 1) hx hb dX11_end_24 (by decide) ?_
      exact W.zret (v := 1) hx hb hr (by decide) (fun t ht hW => ⟨⟨_, (), rfl, (by show _ = px_is0 p0; unfold px_is0; simp only [Int32.lt_iff_toInt_lt, Int32.le_iff_toInt_le, ← Int32.toInt_inj] at c_1 c_2; have e0 : (0 : Int32).toInt = 0 := rfl; first | (rw [if_pos (by omega)]; done) | (rw [if_neg (by omega)]; done)), trivial⟩, by subst hAe; exact hS.F ht⟩) (fun q h => by subst hAe; exact hS.2.2 q h) dX11_end_25
    · refine lv_iconst (v := 0) hx hb dX11_end_17 (by decide) ?_
      exact W.zret (v := 0) hx hb hr (by decide) (fun t ht hW => ⟨⟨_, (), rfl, (by show _ = px_is0 p0; unfold px_is0; simp only [Int32.lt_iff_toInt_lt, Int32.le_iff_toInt_le, ← Int32.toInt_inj] at c_1 c_2; have e0 : (0 : Int32).toInt = 0 := rfl; first | (rw [if_pos (by omega)]; done) | (rw [if_neg (by omega)]; done)), trivial⟩, by subst hAe; exact hS.F ht⟩) (fun q h => by subst hAe; exact hS.2.2 q h) dX11_end_18

set_option maxHeartbeats 4000000 in
set_option maxRecDepth 100000 in
theorem c_X11_count (l : Launch) (D : va_G) (y : Nat → ClassId) (sz : Nat) (mo : Nat) (fmo : List Value) (ms : Nat) (fms : Nat → Int32) (p0 : Int32) (hmo_0 : fmo[0]? = some (.int 0)) (hmo_2 : fmo[2]? = some (.int 0)) (hmo_6 : fmo[6]? = some (.ref ms)) (hms_e0 : fms 0 = 0) (hms_e1 : fms 1 = 0) (hms_e2 : fms 2 = 0) (hms_e3 : fms 3 = 0) : Met l yX11_count (px_w yX11_count cX11_count 2 (some .int)) ({ frames := 1, cells := 0, slots := 0, locals := 22 }) (va_Pc [.ref mo, .int p0] (px_P D y sz [(mo, .inr (11, fmo)), (ms, .inl (y 1, 765, .inl fms))])) (va_Qi (fun (r : Int32) (u : Unit) => r = px_cnt p0) (fun (u : Unit) t => True) (va_A [(mo, .inr (11, fmo)), (ms, .inl (y 1, 765, .inl fms))] sz)) 0 0 (va_A [(mo, .inr (11, fmo)), (ms, .inl (y 1, 765, .inl fms))] sz) := by
  refine Met.ofW (cc := cX11_count) (maxL := 2) (ret := (some .int)) (by decide) rfl ?_
  intro p e s m args below meth c s₁ B hml hv
  obtain ⟨rfl, hsz, hP, hK, hD0⟩ := hv
  have hx := B.exec
  have hb := B.bytes
  have hr := B.returns
  have hts := atoms_spec (ws := px_w yX11_count cX11_count 2 (some .int)) B.pre
  have hg : ∀ w ∈ gw, w.before [.ref mo, .int p0].toArray s = true := fun w h => hts w (List.mem_cons_of_mem _ h)
  have hown : s.vm.findClass RX11 = some m.cls := findClass_of_methodNamed B.named
  have hlocks := B.notSynchronized
  subst hsz
  have hD := hD0.self (sz := s.heap.size)
  generalize hAe : va_A [(mo, .inr (11, fmo)), (ms, .inl (y 1, 765, .inl fms))] s.heap.size = A at hD ⊢
  have hA : ∀ q : Nat, s.heap.size ≤ q → A q := fun q h => by rw [← hAe]; exact Or.inr h
  have hS : va_S A s.heap s.heap [] := va_S.rf
  have hP : va_P D vwCl [(mo, .inr (11, fmo)), (ms, .inl (y 1, 765, .inl fms))] s.heap := hP
  have hl := lv_entry ([.ref mo, .int p0]) (n := 2) (Nat.le_of_ble_eq_true rfl)
  rw [lg_entry_eq]
  generalize (lg_sl ([.ref mo, .int p0]) ++ List.replicate (2 - (lg_sl ([.ref mo, .int p0])).length) Slot.unset).toArray = ls at hl ⊢
  have hl : lv_has ls 2 [(0, .ref mo), (1, .int p0)] := hl
  refine lv_aload_n hx hb dX11_count_0 rfl (lv_at hl 0 rfl) ?_
  refine lv_iconst (v := 0) hx hb dX11_count_1 (by decide) ?_
  refine va_put (D := D) (ci := 11) (v := .int 0) (ty := .int) (C := RX11) (T := TX11) (N := 65) hx hb hg inGX11 tyX11 tyX11_ok nmX11 hown hK hP hD hS 0 rfl rfl 0 (by decide) (hg _ q_6_126) (fun _ h9 => h9) rfl (by decide +kernel) rfl rfl (px_len hmo_0) dX11_count_2 (fun H locs hP hD hS => ?_)
  have hP : va_P D vwCl [(mo, .inr (11, (fmo.set 0 (.int 0)))), (ms, .inl (y 1, 765, .inl fms))] H := hP
  have hD : va_D A [(mo, .inr (11, (fmo.set 0 (.int 0)))), (ms, .inl (y 1, 765, .inl fms))] := hD
  refine lv_iload_n hx hb dX11_count_5 rfl (lv_at hl 1 rfl) ?_
  refine lv_iconst (v := 4) hx hb dX11_count_6 (by decide) ?_
  refine lv_icmp_ne (tgt := 17) hx hb dX11_count_7 (by decide) (fun c_1 => ?_) (fun c_1 => ?_)
  · refine lv_iload_n hx hb dX11_count_17 rfl (lv_at hl 1 rfl) ?_
    refine lv_iconst (v := 0) hx hb dX11_count_18 (by decide) ?_
    refine lv_iconst (v := 3) hx hb dX11_count_19 (by decide) ?_
    have hPc_2 := hP.sub (ws' := []) [] rfl
    have hDc_2 := hD.sub (ws' := []) [] (by decide) rfl
    refine vp_callSi (va_Run.run (va_runS (As := [.int p0, .int 0, .int 3]) (rest := []) ⟨hx, hb, hml, hown, hg⟩ (c_X11_isIn l D y H.size p0 0 3 ) (va_cwS 3 hg (px_gS q_7_121 q_7_122 q_1_15 q_7_123) rfl rfl rfl (by decide +kernel) ⟨Nat.le_of_ble_eq_true rfl, Nat.le_of_ble_eq_true rfl⟩) (px_preS hK hPc_2 hDc_2) rfl rfl hl.1 rfl (lv_room (Nat.le_of_ble_eq_true rfl)) dX11_count_20 ⟨Nat.le_of_ble_eq_true rfl, Nat.le_of_ble_eq_true rfl⟩)) (fun r_2 hw_2 => ?_)
    rcases hw_2 with ⟨rfl, g_2_0_0, g_2_0_1⟩ | ⟨rfl, g_2_1_0⟩ | ⟨rfl, g_2_2_0⟩
    · refine lv_if_eq (tgt := 35) hx hb dX11_count_23 (by decide) (fun c_3 => absurd c_3 (by decide)) (fun _ => ?_)
      refine lv_aload_n hx hb dX11_count_26 rfl (lv_at hl 0 rfl) ?_
      refine va_get (D := D) (ci := 11) (v := .ref ms) (C := RX11) (T := TX11) (N := 65) hx hb hg inGX11 hown hK hP 0 rfl rfl 6 (by decide) (hg _ q_6_132) (fun _ h9 => h9) (px_sn (by decide) hmo_6) dX11_count_27 ?_
      refine lv_iload_n hx hb dX11_count_30 rfl (lv_at hl 1 rfl) ?_
      obtain ⟨j_4, hj_4, ej_4⟩ := px_split (x := p0) (n := 3) (by decide) (by simp only [Int32.lt_iff_toInt_lt, Int32.le_iff_toInt_le, ← Int32.toInt_inj] at c_1 g_2_0_0 g_2_0_1; have e0 : (0 : Int32).toInt = 0 := rfl; have e1 : (3 : Int32).toInt = 3 := rfl; have e2 : (4 : Int32).toInt = 4 := rfl; omega) (by simp only [Int32.lt_iff_toInt_lt, Int32.le_iff_toInt_le, ← Int32.toInt_inj] at c_1 g_2_0_0 g_2_0_1; have e0 : (0 : Int32).toInt = 0 := rfl; have e1 : (3 : Int32).toInt = 3 := rfl; have e2 : (4 : Int32).toInt = 4 := rfl; omega)
      rcases (show j_4 = 0 ∨ j_4 = 1 ∨ j_4 = 2 ∨ j_4 = 3 by omega) with rfl | rfl | rfl | rfl
      · obtain rfl : p0 = 0 := ej_4
        refine va_iald hx hb hK hP 1 1 rfl rfl (i := 0) (px_in (by decide)) dX11_count_31 ?_
        refine px_top (v := 0) hms_e0 ?_
        refine lv_goto (tgt := 36) hx hb dX11_count_32 (by decide) ?_
        exact W.iret (v := 0) hx hb hr (fun t ht hW => ⟨⟨_, (), rfl, (by decide), trivial⟩, by subst hAe; exact hS.F ht⟩) (fun q h => by subst hAe; exact hS.2.2 q h) dX11_count_36
      · obtain rfl : p0 = 1 := ej_4
        refine va_iald hx hb hK hP 1 1 rfl rfl (i := 1) (px_in (by decide)) dX11_count_31 ?_
        refine px_top (v := 0) hms_e1 ?_
        refine lv_goto (tgt := 36) hx hb dX11_count_32 (by decide) ?_
        exact W.iret (v := 0) hx hb hr (fun t ht hW => ⟨⟨_, (), rfl, (by decide), trivial⟩, by subst hAe; exact hS.F ht⟩) (fun q h => by subst hAe; exact hS.2.2 q h) dX11_count_36
      · obtain rfl : p0 = 2 := ej_4
        refine va_iald hx hb hK hP 1 1 rfl rfl (i := 2) (px_in (by decide)) dX11_count_31 ?_
        refine px_top (v := 0) hms_e2 ?_
        refine lv_goto (tgt := 36) hx hb dX11_count_32 (by decide) ?_
        exact W.iret (v := 0) hx hb hr (fun t ht hW => ⟨⟨_, (), rfl, (by decide), trivial⟩, by subst hAe; exact hS.F ht⟩) (fun q h => by subst hAe; exact hS.2.2 q h) dX11_count_36
      · obtain rfl : p0 = 3 := ej_4
        refine va_iald hx hb hK hP 1 1 rfl rfl (i := 3) (px_in (by decide)) dX11_count_31 ?_
        refine px_top (v := 0) hms_e3 ?_
        refine lv_goto (tgt := 36) hx hb dX11_count_32 (by decide) ?_
        exact W.iret (v := 0) hx hb hr (fun t ht hW => ⟨⟨_, (), rfl, (by decide), trivial⟩, by subst hAe; exact hS.F ht⟩) (fun q h => by subst hAe; exact hS.2.2 q h) dX11_count_36
    · refine lv_if_eq (tgt := 35) hx hb dX11_count_23 (by decide) (fun _ => ?_) (fun c_5 => absurd c_5 (by decide))
      refine lv_iconst (v := (-1)) hx hb dX11_count_35 (by decide) ?_
      exact W.iret (v := (-1)) hx hb hr (fun t ht hW => ⟨⟨_, (), rfl, (by show _ = px_cnt p0; unfold px_cnt; simp only [Int32.lt_iff_toInt_lt, Int32.le_iff_toInt_le, ← Int32.toInt_inj] at c_1 g_2_1_0; have e0 : (0 : Int32).toInt = 0 := rfl; have e1 : (4 : Int32).toInt = 4 := rfl; first | (rw [if_pos (by omega)]; done) | (rw [if_neg (by omega)]; done)), trivial⟩, by subst hAe; exact hS.F ht⟩) (fun q h => by subst hAe; exact hS.2.2 q h) dX11_count_36
    · refine lv_if_eq (tgt := 35) hx hb dX11_count_23 (by decide) (fun _ => ?_) (fun c_6 => absurd c_6 (by decide))
      refine lv_iconst (v := (-1)) hx hb dX11_count_35 (by decide) ?_
      exact W.iret (v := (-1)) hx hb hr (fun t ht hW => ⟨⟨_, (), rfl, (by show _ = px_cnt p0; unfold px_cnt; simp only [Int32.lt_iff_toInt_lt, Int32.le_iff_toInt_le, ← Int32.toInt_inj] at c_1 g_2_2_0; have e0 : (3 : Int32).toInt = 3 := rfl; have e1 : (4 : Int32).toInt = 4 := rfl; first | (rw [if_pos (by omega)]; done) | (rw [if_neg (by omega)]; done)), trivial⟩, by subst hAe; exact hS.F ht⟩) (fun q h => by subst hAe; exact hS.2.2 q h) dX11_count_36
  · refine lv_aload_n hx hb dX11_count_10 rfl (lv_at hl 0 rfl) ?_
    refine va_get (D := D) (ci := 11) (v := .int 0) (C := RX11) (T := TX11) (N := 65) hx hb hg inGX11 hown hK hP 0 rfl rfl 2 (by decide) (hg _ q_6_128) (fun _ h9 => h9) (px_sn (by decide) hmo_2) dX11_count_11 ?_
    refine lv_goto (tgt := 36) hx hb dX11_count_14 (by decide) ?_
    exact W.iret (v := 0) hx hb hr (fun t ht hW => ⟨⟨_, (), rfl, (by show _ = px_cnt p0; unfold px_cnt; simp only [Int32.lt_iff_toInt_lt, Int32.le_iff_toInt_le, ← Int32.toInt_inj] at c_1; have e0 : (4 : Int32).toInt = 4 := rfl; first | (rw [if_pos (by omega)]; done) | (rw [if_neg (by omega)]; done)), trivial⟩, by subst hAe; exact hS.F ht⟩) (fun q h => by subst hAe; exact hS.2.2 q h) dX11_count_36

set_option maxHeartbeats 4000000 in
set_option maxRecDepth 100000 in
theorem c_X11_allBooks (l : Launch) (D : va_G) (y : Nat → ClassId) (sz : Nat) (mo : Nat) (fmo : List Value) (ms : Nat) (fms : Nat → Int32) (hmo_6 : fmo[6]? = some (.ref ms)) (hms_e138 : fms 138 = 0) (hms_e139 : fms 139 = 0) (hms_e140 : fms 140 = 0) (hms_e141 : fms 141 = 0) (hms_e142 : fms 142 = 0) (hms_e143 : fms 143 = 0) (hms_e144 : fms 144 = 0) (hms_e145 : fms 145 = 0) (hms_e146 : fms 146 = 0) (hms_e147 : fms 147 = 0) (hms_e148 : fms 148 = 0) (hms_e149 : fms 149 = 0) (hms_e150 : fms 150 = 0) : Met l yX11_allBooks (px_w yX11_allBooks cX11_allBooks 3 (some .int)) ({ frames := 0, cells := 0, slots := 0, locals := 0 }) (va_Pc [.ref mo] (px_P D y sz [(mo, .inr (11, fmo)), (ms, .inl (y 1, 765, .inl fms))])) (vp_Si (fun r : Int32 => r = 0)) 0 0 (fun _ => False) := by
  refine Met.ofW (cc := cX11_allBooks) (maxL := 3) (ret := (some .int)) (by decide) rfl ?_
  intro p e s m args below meth c s₁ B hml hv
  obtain ⟨rfl, hsz, hP, hK, hD0⟩ := hv
  have hx := B.exec
  have hb := B.bytes
  have hr := B.returns
  have hts := atoms_spec (ws := px_w yX11_allBooks cX11_allBooks 3 (some .int)) B.pre
  have hg : ∀ w ∈ gw, w.before [.ref mo].toArray s = true := fun w h => hts w (List.mem_cons_of_mem _ h)
  have hown : s.vm.findClass RX11 = some m.cls := findClass_of_methodNamed B.named
  have hlocks := B.notSynchronized
  subst hsz
  have hD := hD0
  have hP : va_P D vwCl [(mo, .inr (11, fmo)), (ms, .inl (y 1, 765, .inl fms))] s.heap := hP
  have hl := lv_entry ([.ref mo]) (n := 3) (Nat.le_of_ble_eq_true rfl)
  rw [lg_entry_eq]
  generalize (lg_sl ([.ref mo]) ++ List.replicate (3 - (lg_sl ([.ref mo])).length) Slot.unset).toArray = ls at hl ⊢
  have hl : lv_has ls 3 [(0, .ref mo)] := hl
  refine lv_iconst (v := 0) hx hb dX11_allBooks_0 (by decide) ?_
  refine lv_istore_n (lv' := [(1, .int 0), (0, .ref mo)]) hx hb dX11_allBooks_1 rfl hl (by decide) rfl (fun ls hl => ?_)
  refine lv_iconst (v := 0) hx hb dX11_allBooks_2 (by decide) ?_
  refine lv_istore_n (lv' := [(2, .int 0), (1, .int 0), (0, .ref mo)]) hx hb dX11_allBooks_3 rfl hl (by decide) rfl (fun ls hl => ?_)
  refine lv_iload_n hx hb dX11_allBooks_4 rfl (lv_at hl 0 rfl) ?_
  refine lv_bipush (v := 13) hx hb dX11_allBooks_5 (by decide) ?_
  refine lv_icmp_ge (tgt := 37) hx hb dX11_allBooks_7 (by decide) (fun c_1 => absurd c_1 (by decide)) (fun _ => ?_)
  refine lv_iload_n hx hb dX11_allBooks_10 rfl (lv_at hl 1 rfl) ?_
  refine lv_aload_n hx hb dX11_allBooks_11 rfl (lv_at hl 2 rfl) ?_
  refine va_get (D := D) (ci := 11) (v := .ref ms) (C := RX11) (T := TX11) (N := 65) hx hb hg inGX11 hown hK hP 0 rfl rfl 6 (by decide) (hg _ q_6_132) (fun _ h9 => h9) hmo_6 dX11_allBooks_12 ?_
  refine lv_sipush (v := 138) hx hb dX11_allBooks_15 (by decide) ?_
  refine lv_iload_n hx hb dX11_allBooks_18 rfl (lv_at hl 0 rfl) ?_
  refine lv_iadd hx hb dX11_allBooks_19 ?_
  refine px_top (v := 138) (by decide) ?_
  refine va_iald hx hb hK hP 1 1 rfl rfl (i := 138) (px_in (by decide)) dX11_allBooks_20 ?_
  refine px_top (v := 0) hms_e138 ?_
  refine lv_if_le (tgt := 28) hx hb dX11_allBooks_21 (by decide) (fun _ => ?_) (fun c_2 => absurd c_2 (by decide))
  refine lv_iconst (v := 0) hx hb dX11_allBooks_28 (by decide) ?_
  refine lv_iadd hx hb dX11_allBooks_29 ?_
  refine px_top (v := 0) (by decide) ?_
  refine lv_istore_n (lv' := [(1, .int 0), (2, .int 0), (0, .ref mo)]) hx hb dX11_allBooks_30 rfl hl (by decide) rfl (fun ls hl => ?_)
  refine lv_iinc (v := 1) (lv' := [(2, .int 1), (1, .int 0), (0, .ref mo)]) hx hb dX11_allBooks_31 hl (k := 1) rfl (by decide) (by decide) rfl (fun ls hl => ?_)
  refine lv_goto (tgt := 4) hx hb dX11_allBooks_34 (by decide) ?_
  refine lv_iload_n hx hb dX11_allBooks_4 rfl (lv_at hl 0 rfl) ?_
  refine lv_bipush (v := 13) hx hb dX11_allBooks_5 (by decide) ?_
  refine lv_icmp_ge (tgt := 37) hx hb dX11_allBooks_7 (by decide) (fun c_3 => absurd c_3 (by decide)) (fun _ => ?_)
  refine lv_iload_n hx hb dX11_allBooks_10 rfl (lv_at hl 1 rfl) ?_
  refine lv_aload_n hx hb dX11_allBooks_11 rfl (lv_at hl 2 rfl) ?_
  refine va_get (D := D) (ci := 11) (v := .ref ms) (C := RX11) (T := TX11) (N := 65) hx hb hg inGX11 hown hK hP 0 rfl rfl 6 (by decide) (hg _ q_6_132) (fun _ h9 => h9) hmo_6 dX11_allBooks_12 ?_
  refine lv_sipush (v := 138) hx hb dX11_allBooks_15 (by decide) ?_
  refine lv_iload_n hx hb dX11_allBooks_18 rfl (lv_at hl 0 rfl) ?_
  refine lv_iadd hx hb dX11_allBooks_19 ?_
  refine px_top (v := 139) (by decide) ?_
  refine va_iald hx hb hK hP 1 1 rfl rfl (i := 139) (px_in (by decide)) dX11_allBooks_20 ?_
  refine px_top (v := 0) hms_e139 ?_
  refine lv_if_le (tgt := 28) hx hb dX11_allBooks_21 (by decide) (fun _ => ?_) (fun c_4 => absurd c_4 (by decide))
  refine lv_iconst (v := 0) hx hb dX11_allBooks_28 (by decide) ?_
  refine lv_iadd hx hb dX11_allBooks_29 ?_
  refine px_top (v := 0) (by decide) ?_
  refine lv_istore_n (lv' := [(1, .int 0), (2, .int 1), (0, .ref mo)]) hx hb dX11_allBooks_30 rfl hl (by decide) rfl (fun ls hl => ?_)
  refine lv_iinc (v := 2) (lv' := [(2, .int 2), (1, .int 0), (0, .ref mo)]) hx hb dX11_allBooks_31 hl (k := 1) rfl (by decide) (by decide) rfl (fun ls hl => ?_)
  refine lv_goto (tgt := 4) hx hb dX11_allBooks_34 (by decide) ?_
  refine lv_iload_n hx hb dX11_allBooks_4 rfl (lv_at hl 0 rfl) ?_
  refine lv_bipush (v := 13) hx hb dX11_allBooks_5 (by decide) ?_
  refine lv_icmp_ge (tgt := 37) hx hb dX11_allBooks_7 (by decide) (fun c_5 => absurd c_5 (by decide)) (fun _ => ?_)
  refine lv_iload_n hx hb dX11_allBooks_10 rfl (lv_at hl 1 rfl) ?_
  refine lv_aload_n hx hb dX11_allBooks_11 rfl (lv_at hl 2 rfl) ?_
  refine va_get (D := D) (ci := 11) (v := .ref ms) (C := RX11) (T := TX11) (N := 65) hx hb hg inGX11 hown hK hP 0 rfl rfl 6 (by decide) (hg _ q_6_132) (fun _ h9 => h9) hmo_6 dX11_allBooks_12 ?_
  refine lv_sipush (v := 138) hx hb dX11_allBooks_15 (by decide) ?_
  refine lv_iload_n hx hb dX11_allBooks_18 rfl (lv_at hl 0 rfl) ?_
  refine lv_iadd hx hb dX11_allBooks_19 ?_
  refine px_top (v := 140) (by decide) ?_
  refine va_iald hx hb hK hP 1 1 rfl rfl (i := 140) (px_in (by decide)) dX11_allBooks_20 ?_
  refine px_top (v := 0) hms_e140 ?_
  refine lv_if_le (tgt := 28) hx hb dX11_allBooks_21 (by decide) (fun _ => ?_) (fun c_6 => absurd c_6 (by decide))
  refine lv_iconst (v := 0) hx hb dX11_allBooks_28 (by decide) ?_
  refine lv_iadd hx hb dX11_allBooks_29 ?_
  refine px_top (v := 0) (by decide) ?_
  refine lv_istore_n (lv' := [(1, .int 0), (2, .int 2), (0, .ref mo)]) hx hb dX11_allBooks_30 rfl hl (by decide) rfl (fun ls hl => ?_)
  refine lv_iinc (v := 3) (lv' := [(2, .int 3), (1, .int 0), (0, .ref mo)]) hx hb dX11_allBooks_31 hl (k := 1) rfl (by decide) (by decide) rfl (fun ls hl => ?_)
  refine lv_goto (tgt := 4) hx hb dX11_allBooks_34 (by decide) ?_
  refine lv_iload_n hx hb dX11_allBooks_4 rfl (lv_at hl 0 rfl) ?_
  refine lv_bipush (v := 13) hx hb dX11_allBooks_5 (by decide) ?_
  refine lv_icmp_ge (tgt := 37) hx hb dX11_allBooks_7 (by decide) (fun c_7 => absurd c_7 (by decide)) (fun _ => ?_)
  refine lv_iload_n hx hb dX11_allBooks_10 rfl (lv_at hl 1 rfl) ?_
  refine lv_aload_n hx hb dX11_allBooks_11 rfl (lv_at hl 2 rfl) ?_
  refine va_get (D := D) (ci := 11) (v := .ref ms) (C := RX11) (T := TX11) (N := 65) hx hb hg inGX11 hown hK hP 0 rfl rfl 6 (by decide) (hg _ q_6_132) (fun _ h9 => h9) hmo_6 dX11_allBooks_12 ?_
  refine lv_sipush (v := 138) hx hb dX11_allBooks_15 (by decide) ?_
  refine lv_iload_n hx hb dX11_allBooks_18 rfl (lv_at hl 0 rfl) ?_
  refine lv_iadd hx hb dX11_allBooks_19 ?_
  refine px_top (v := 141) (by decide) ?_
  refine va_iald hx hb hK hP 1 1 rfl rfl (i := 141) (px_in (by decide)) dX11_allBooks_20 ?_
  refine px_top (v := 0) hms_e141 ?_
  refine lv_if_le (tgt := 28) hx hb dX11_allBooks_21 (by decide) (fun _ => ?_) (fun c_8 => absurd c_8 (by decide))
  refine lv_iconst (v := 0) hx hb dX11_allBooks_28 (by decide) ?_
  refine lv_iadd hx hb dX11_allBooks_29 ?_
  refine px_top (v := 0) (by decide) ?_
  refine lv_istore_n (lv' := [(1, .int 0), (2, .int 3), (0, .ref mo)]) hx hb dX11_allBooks_30 rfl hl (by decide) rfl (fun ls hl => ?_)
  refine lv_iinc (v := 4) (lv' := [(2, .int 4), (1, .int 0), (0, .ref mo)]) hx hb dX11_allBooks_31 hl (k := 1) rfl (by decide) (by decide) rfl (fun ls hl => ?_)
  refine lv_goto (tgt := 4) hx hb dX11_allBooks_34 (by decide) ?_
  refine lv_iload_n hx hb dX11_allBooks_4 rfl (lv_at hl 0 rfl) ?_
  refine lv_bipush (v := 13) hx hb dX11_allBooks_5 (by decide) ?_
  refine lv_icmp_ge (tgt := 37) hx hb dX11_allBooks_7 (by decide) (fun c_9 => absurd c_9 (by decide)) (fun _ => ?_)
  refine lv_iload_n hx hb dX11_allBooks_10 rfl (lv_at hl 1 rfl) ?_
  refine lv_aload_n hx hb dX11_allBooks_11 rfl (lv_at hl 2 rfl) ?_
  refine va_get (D := D) (ci := 11) (v := .ref ms) (C := RX11) (T := TX11) (N := 65) hx hb hg inGX11 hown hK hP 0 rfl rfl 6 (by decide) (hg _ q_6_132) (fun _ h9 => h9) hmo_6 dX11_allBooks_12 ?_
  refine lv_sipush (v := 138) hx hb dX11_allBooks_15 (by decide) ?_
  refine lv_iload_n hx hb dX11_allBooks_18 rfl (lv_at hl 0 rfl) ?_
  refine lv_iadd hx hb dX11_allBooks_19 ?_
  refine px_top (v := 142) (by decide) ?_
  refine va_iald hx hb hK hP 1 1 rfl rfl (i := 142) (px_in (by decide)) dX11_allBooks_20 ?_
  refine px_top (v := 0) hms_e142 ?_
  refine lv_if_le (tgt := 28) hx hb dX11_allBooks_21 (by decide) (fun _ => ?_) (fun c_10 => absurd c_10 (by decide))
  refine lv_iconst (v := 0) hx hb dX11_allBooks_28 (by decide) ?_
  refine lv_iadd hx hb dX11_allBooks_29 ?_
  refine px_top (v := 0) (by decide) ?_
  refine lv_istore_n (lv' := [(1, .int 0), (2, .int 4), (0, .ref mo)]) hx hb dX11_allBooks_30 rfl hl (by decide) rfl (fun ls hl => ?_)
  refine lv_iinc (v := 5) (lv' := [(2, .int 5), (1, .int 0), (0, .ref mo)]) hx hb dX11_allBooks_31 hl (k := 1) rfl (by decide) (by decide) rfl (fun ls hl => ?_)
  refine lv_goto (tgt := 4) hx hb dX11_allBooks_34 (by decide) ?_
  refine lv_iload_n hx hb dX11_allBooks_4 rfl (lv_at hl 0 rfl) ?_
  refine lv_bipush (v := 13) hx hb dX11_allBooks_5 (by decide) ?_
  refine lv_icmp_ge (tgt := 37) hx hb dX11_allBooks_7 (by decide) (fun c_11 => absurd c_11 (by decide)) (fun _ => ?_)
  refine lv_iload_n hx hb dX11_allBooks_10 rfl (lv_at hl 1 rfl) ?_
  refine lv_aload_n hx hb dX11_allBooks_11 rfl (lv_at hl 2 rfl) ?_
  refine va_get (D := D) (ci := 11) (v := .ref ms) (C := RX11) (T := TX11) (N := 65) hx hb hg inGX11 hown hK hP 0 rfl rfl 6 (by decide) (hg _ q_6_132) (fun _ h9 => h9) hmo_6 dX11_allBooks_12 ?_
  refine lv_sipush (v := 138) hx hb dX11_allBooks_15 (by decide) ?_
  refine lv_iload_n hx hb dX11_allBooks_18 rfl (lv_at hl 0 rfl) ?_
  refine lv_iadd hx hb dX11_allBooks_19 ?_
  refine px_top (v := 143) (by decide) ?_
  refine va_iald hx hb hK hP 1 1 rfl rfl (i := 143) (px_in (by decide)) dX11_allBooks_20 ?_
  refine px_top (v := 0) hms_e143 ?_
  refine lv_if_le (tgt := 28) hx hb dX11_allBooks_21 (by decide) (fun _ => ?_) (fun c_12 => absurd c_12 (by decide))
  refine lv_iconst (v := 0) hx hb dX11_allBooks_28 (by decide) ?_
  refine lv_iadd hx hb dX11_allBooks_29 ?_
  refine px_top (v := 0) (by decide) ?_
  refine lv_istore_n (lv' := [(1, .int 0), (2, .int 5), (0, .ref mo)]) hx hb dX11_allBooks_30 rfl hl (by decide) rfl (fun ls hl => ?_)
  refine lv_iinc (v := 6) (lv' := [(2, .int 6), (1, .int 0), (0, .ref mo)]) hx hb dX11_allBooks_31 hl (k := 1) rfl (by decide) (by decide) rfl (fun ls hl => ?_)
  refine lv_goto (tgt := 4) hx hb dX11_allBooks_34 (by decide) ?_
  refine lv_iload_n hx hb dX11_allBooks_4 rfl (lv_at hl 0 rfl) ?_
  refine lv_bipush (v := 13) hx hb dX11_allBooks_5 (by decide) ?_
  refine lv_icmp_ge (tgt := 37) hx hb dX11_allBooks_7 (by decide) (fun c_13 => absurd c_13 (by decide)) (fun _ => ?_)
  refine lv_iload_n hx hb dX11_allBooks_10 rfl (lv_at hl 1 rfl) ?_
  refine lv_aload_n hx hb dX11_allBooks_11 rfl (lv_at hl 2 rfl) ?_
  refine va_get (D := D) (ci := 11) (v := .ref ms) (C := RX11) (T := TX11) (N := 65) hx hb hg inGX11 hown hK hP 0 rfl rfl 6 (by decide) (hg _ q_6_132) (fun _ h9 => h9) hmo_6 dX11_allBooks_12 ?_
  refine lv_sipush (v := 138) hx hb dX11_allBooks_15 (by decide) ?_
  refine lv_iload_n hx hb dX11_allBooks_18 rfl (lv_at hl 0 rfl) ?_
  refine lv_iadd hx hb dX11_allBooks_19 ?_
  refine px_top (v := 144) (by decide) ?_
  refine va_iald hx hb hK hP 1 1 rfl rfl (i := 144) (px_in (by decide)) dX11_allBooks_20 ?_
  refine px_top (v := 0) hms_e144 ?_
  refine lv_if_le (tgt := 28) hx hb dX11_allBooks_21 (by decide) (fun _ => ?_) (fun c_14 => absurd c_14 (by decide))
  refine lv_iconst (v := 0) hx hb dX11_allBooks_28 (by decide) ?_
  refine lv_iadd hx hb dX11_allBooks_29 ?_
  refine px_top (v := 0) (by decide) ?_
  refine lv_istore_n (lv' := [(1, .int 0), (2, .int 6), (0, .ref mo)]) hx hb dX11_allBooks_30 rfl hl (by decide) rfl (fun ls hl => ?_)
  refine lv_iinc (v := 7) (lv' := [(2, .int 7), (1, .int 0), (0, .ref mo)]) hx hb dX11_allBooks_31 hl (k := 1) rfl (by decide) (by decide) rfl (fun ls hl => ?_)
  refine lv_goto (tgt := 4) hx hb dX11_allBooks_34 (by decide) ?_
  refine lv_iload_n hx hb dX11_allBooks_4 rfl (lv_at hl 0 rfl) ?_
  refine lv_bipush (v := 13) hx hb dX11_allBooks_5 (by decide) ?_
  refine lv_icmp_ge (tgt := 37) hx hb dX11_allBooks_7 (by decide) (fun c_15 => absurd c_15 (by decide)) (fun _ => ?_)
  refine lv_iload_n hx hb dX11_allBooks_10 rfl (lv_at hl 1 rfl) ?_
  refine lv_aload_n hx hb dX11_allBooks_11 rfl (lv_at hl 2 rfl) ?_
  refine va_get (D := D) (ci := 11) (v := .ref ms) (C := RX11) (T := TX11) (N := 65) hx hb hg inGX11 hown hK hP 0 rfl rfl 6 (by decide) (hg _ q_6_132) (fun _ h9 => h9) hmo_6 dX11_allBooks_12 ?_
  refine lv_sipush (v := 138) hx hb dX11_allBooks_15 (by decide) ?_
  refine lv_iload_n hx hb dX11_allBooks_18 rfl (lv_at hl 0 rfl) ?_
  refine lv_iadd hx hb dX11_allBooks_19 ?_
  refine px_top (v := 145) (by decide) ?_
  refine va_iald hx hb hK hP 1 1 rfl rfl (i := 145) (px_in (by decide)) dX11_allBooks_20 ?_
  refine px_top (v := 0) hms_e145 ?_
  refine lv_if_le (tgt := 28) hx hb dX11_allBooks_21 (by decide) (fun _ => ?_) (fun c_16 => absurd c_16 (by decide))
  refine lv_iconst (v := 0) hx hb dX11_allBooks_28 (by decide) ?_
  refine lv_iadd hx hb dX11_allBooks_29 ?_
  refine px_top (v := 0) (by decide) ?_
  refine lv_istore_n (lv' := [(1, .int 0), (2, .int 7), (0, .ref mo)]) hx hb dX11_allBooks_30 rfl hl (by decide) rfl (fun ls hl => ?_)
  refine lv_iinc (v := 8) (lv' := [(2, .int 8), (1, .int 0), (0, .ref mo)]) hx hb dX11_allBooks_31 hl (k := 1) rfl (by decide) (by decide) rfl (fun ls hl => ?_)
  refine lv_goto (tgt := 4) hx hb dX11_allBooks_34 (by decide) ?_
  refine lv_iload_n hx hb dX11_allBooks_4 rfl (lv_at hl 0 rfl) ?_
  refine lv_bipush (v := 13) hx hb dX11_allBooks_5 (by decide) ?_
  refine lv_icmp_ge (tgt := 37) hx hb dX11_allBooks_7 (by decide) (fun c_17 => absurd c_17 (by decide)) (fun _ => ?_)
  refine lv_iload_n hx hb dX11_allBooks_10 rfl (lv_at hl 1 rfl) ?_
  refine lv_aload_n hx hb dX11_allBooks_11 rfl (lv_at hl 2 rfl) ?_
  refine va_get (D := D) (ci := 11) (v := .ref ms) (C := RX11) (T := TX11) (N := 65) hx hb hg inGX11 hown hK hP 0 rfl rfl 6 (by decide) (hg _ q_6_132) (fun _ h9 => h9) hmo_6 dX11_allBooks_12 ?_
  refine lv_sipush (v := 138) hx hb dX11_allBooks_15 (by decide) ?_
  refine lv_iload_n hx hb dX11_allBooks_18 rfl (lv_at hl 0 rfl) ?_
  refine lv_iadd hx hb dX11_allBooks_19 ?_
  refine px_top (v := 146) (by decide) ?_
  refine va_iald hx hb hK hP 1 1 rfl rfl (i := 146) (px_in (by decide)) dX11_allBooks_20 ?_
  refine px_top (v := 0) hms_e146 ?_
  refine lv_if_le (tgt := 28) hx hb dX11_allBooks_21 (by decide) (fun _ => ?_) (fun c_18 => absurd c_18 (by decide))
  refine lv_iconst (v := 0) hx hb dX11_allBooks_28 (by decide) ?_
  refine lv_iadd hx hb dX11_allBooks_29 ?_
  refine px_top (v := 0) (by decide) ?_
  refine lv_istore_n (lv' := [(1, .int 0), (2, .int 8), (0, .ref mo)]) hx hb dX11_allBooks_30 rfl hl (by decide) rfl (fun ls hl => ?_)
  refine lv_iinc (v := 9) (lv' := [(2, .int 9), (1, .int 0), (0, .ref mo)]) hx hb dX11_allBooks_31 hl (k := 1) rfl (by decide) (by decide) rfl (fun ls hl => ?_)
  refine lv_goto (tgt := 4) hx hb dX11_allBooks_34 (by decide) ?_
  refine lv_iload_n hx hb dX11_allBooks_4 rfl (lv_at hl 0 rfl) ?_
  refine lv_bipush (v := 13) hx hb dX11_allBooks_5 (by decide) ?_
  refine lv_icmp_ge (tgt := 37) hx hb dX11_allBooks_7 (by decide) (fun c_19 => absurd c_19 (by decide)) (fun _ => ?_)
  refine lv_iload_n hx hb dX11_allBooks_10 rfl (lv_at hl 1 rfl) ?_
  refine lv_aload_n hx hb dX11_allBooks_11 rfl (lv_at hl 2 rfl) ?_
  refine va_get (D := D) (ci := 11) (v := .ref ms) (C := RX11) (T := TX11) (N := 65) hx hb hg inGX11 hown hK hP 0 rfl rfl 6 (by decide) (hg _ q_6_132) (fun _ h9 => h9) hmo_6 dX11_allBooks_12 ?_
  refine lv_sipush (v := 138) hx hb dX11_allBooks_15 (by decide) ?_
  refine lv_iload_n hx hb dX11_allBooks_18 rfl (lv_at hl 0 rfl) ?_
  refine lv_iadd hx hb dX11_allBooks_19 ?_
  refine px_top (v := 147) (by decide) ?_
  refine va_iald hx hb hK hP 1 1 rfl rfl (i := 147) (px_in (by decide)) dX11_allBooks_20 ?_
  refine px_top (v := 0) hms_e147 ?_
  refine lv_if_le (tgt := 28) hx hb dX11_allBooks_21 (by decide) (fun _ => ?_) (fun c_20 => absurd c_20 (by decide))
  refine lv_iconst (v := 0) hx hb dX11_allBooks_28 (by decide) ?_
  refine lv_iadd hx hb dX11_allBooks_29 ?_
  refine px_top (v := 0) (by decide) ?_
  refine lv_istore_n (lv' := [(1, .int 0), (2, .int 9), (0, .ref mo)]) hx hb dX11_allBooks_30 rfl hl (by decide) rfl (fun ls hl => ?_)
  refine lv_iinc (v := 10) (lv' := [(2, .int 10), (1, .int 0), (0, .ref mo)]) hx hb dX11_allBooks_31 hl (k := 1) rfl (by decide) (by decide) rfl (fun ls hl => ?_)
  refine lv_goto (tgt := 4) hx hb dX11_allBooks_34 (by decide) ?_
  refine lv_iload_n hx hb dX11_allBooks_4 rfl (lv_at hl 0 rfl) ?_
  refine lv_bipush (v := 13) hx hb dX11_allBooks_5 (by decide) ?_
  refine lv_icmp_ge (tgt := 37) hx hb dX11_allBooks_7 (by decide) (fun c_21 => absurd c_21 (by decide)) (fun _ => ?_)
  refine lv_iload_n hx hb dX11_allBooks_10 rfl (lv_at hl 1 rfl) ?_
  refine lv_aload_n hx hb dX11_allBooks_11 rfl (lv_at hl 2 rfl) ?_
  refine va_get (D := D) (ci := 11) (v := .ref ms) (C := RX11) (T := TX11) (N := 65) hx hb hg inGX11 hown hK hP 0 rfl rfl 6 (by decide) (hg _ q_6_132) (fun _ h9 => h9) hmo_6 dX11_allBooks_12 ?_
  refine lv_sipush (v := 138) hx hb dX11_allBooks_15 (by decide) ?_
  refine lv_iload_n hx hb dX11_allBooks_18 rfl (lv_at hl 0 rfl) ?_
  refine lv_iadd hx hb dX11_allBooks_19 ?_
  refine px_top (v := 148) (by decide) ?_
  refine va_iald hx hb hK hP 1 1 rfl rfl (i := 148) (px_in (by decide)) dX11_allBooks_20 ?_
  refine px_top (v := 0) hms_e148 ?_
  refine lv_if_le (tgt := 28) hx hb dX11_allBooks_21 (by decide) (fun _ => ?_) (fun c_22 => absurd c_22 (by decide))
  refine lv_iconst (v := 0) hx hb dX11_allBooks_28 (by decide) ?_
  refine lv_iadd hx hb dX11_allBooks_29 ?_
  refine px_top (v := 0) (by decide) ?_
  refine lv_istore_n (lv' := [(1, .int 0), (2, .int 10), (0, .ref mo)]) hx hb dX11_allBooks_30 rfl hl (by decide) rfl (fun ls hl => ?_)
  refine lv_iinc (v := 11) (lv' := [(2, .int 11), (1, .int 0), (0, .ref mo)]) hx hb dX11_allBooks_31 hl (k := 1) rfl (by decide) (by decide) rfl (fun ls hl => ?_)
  refine lv_goto (tgt := 4) hx hb dX11_allBooks_34 (by decide) ?_
  refine lv_iload_n hx hb dX11_allBooks_4 rfl (lv_at hl 0 rfl) ?_
  refine lv_bipush (v := 13) hx hb dX11_allBooks_5 (by decide) ?_
  refine lv_icmp_ge (tgt := 37) hx hb dX11_allBooks_7 (by decide) (fun c_23 => absurd c_23 (by decide)) (fun _ => ?_)
  refine lv_iload_n hx hb dX11_allBooks_10 rfl (lv_at hl 1 rfl) ?_
  refine lv_aload_n hx hb dX11_allBooks_11 rfl (lv_at hl 2 rfl) ?_
  refine va_get (D := D) (ci := 11) (v := .ref ms) (C := RX11) (T := TX11) (N := 65) hx hb hg inGX11 hown hK hP 0 rfl rfl 6 (by decide) (hg _ q_6_132) (fun _ h9 => h9) hmo_6 dX11_allBooks_12 ?_
  refine lv_sipush (v := 138) hx hb dX11_allBooks_15 (by decide) ?_
  refine lv_iload_n hx hb dX11_allBooks_18 rfl (lv_at hl 0 rfl) ?_
  refine lv_iadd hx hb dX11_allBooks_19 ?_
  refine px_top (v := 149) (by decide) ?_
  refine va_iald hx hb hK hP 1 1 rfl rfl (i := 149) (px_in (by decide)) dX11_allBooks_20 ?_
  refine px_top (v := 0) hms_e149 ?_
  refine lv_if_le (tgt := 28) hx hb dX11_allBooks_21 (by decide) (fun _ => ?_) (fun c_24 => absurd c_24 (by decide))
  refine lv_iconst (v := 0) hx hb dX11_allBooks_28 (by decide) ?_
  refine lv_iadd hx hb dX11_allBooks_29 ?_
  refine px_top (v := 0) (by decide) ?_
  refine lv_istore_n (lv' := [(1, .int 0), (2, .int 11), (0, .ref mo)]) hx hb dX11_allBooks_30 rfl hl (by decide) rfl (fun ls hl => ?_)
  refine lv_iinc (v := 12) (lv' := [(2, .int 12), (1, .int 0), (0, .ref mo)]) hx hb dX11_allBooks_31 hl (k := 1) rfl (by decide) (by decide) rfl (fun ls hl => ?_)
  refine lv_goto (tgt := 4) hx hb dX11_allBooks_34 (by decide) ?_
  refine lv_iload_n hx hb dX11_allBooks_4 rfl (lv_at hl 0 rfl) ?_
  refine lv_bipush (v := 13) hx hb dX11_allBooks_5 (by decide) ?_
  refine lv_icmp_ge (tgt := 37) hx hb dX11_allBooks_7 (by decide) (fun c_25 => absurd c_25 (by decide)) (fun _ => ?_)
  refine lv_iload_n hx hb dX11_allBooks_10 rfl (lv_at hl 1 rfl) ?_
  refine lv_aload_n hx hb dX11_allBooks_11 rfl (lv_at hl 2 rfl) ?_
  refine va_get (D := D) (ci := 11) (v := .ref ms) (C := RX11) (T := TX11) (N := 65) hx hb hg inGX11 hown hK hP 0 rfl rfl 6 (by decide) (hg _ q_6_132) (fun _ h9 => h9) hmo_6 dX11_allBooks_12 ?_
  refine lv_sipush (v := 138) hx hb dX11_allBooks_15 (by decide) ?_
  refine lv_iload_n hx hb dX11_allBooks_18 rfl (lv_at hl 0 rfl) ?_
  refine lv_iadd hx hb dX11_allBooks_19 ?_
  refine px_top (v := 150) (by decide) ?_
  refine va_iald hx hb hK hP 1 1 rfl rfl (i := 150) (px_in (by decide)) dX11_allBooks_20 ?_
  refine px_top (v := 0) hms_e150 ?_
  refine lv_if_le (tgt := 28) hx hb dX11_allBooks_21 (by decide) (fun _ => ?_) (fun c_26 => absurd c_26 (by decide))
  refine lv_iconst (v := 0) hx hb dX11_allBooks_28 (by decide) ?_
  refine lv_iadd hx hb dX11_allBooks_29 ?_
  refine px_top (v := 0) (by decide) ?_
  refine lv_istore_n (lv' := [(1, .int 0), (2, .int 12), (0, .ref mo)]) hx hb dX11_allBooks_30 rfl hl (by decide) rfl (fun ls hl => ?_)
  refine lv_iinc (v := 13) (lv' := [(2, .int 13), (1, .int 0), (0, .ref mo)]) hx hb dX11_allBooks_31 hl (k := 1) rfl (by decide) (by decide) rfl (fun ls hl => ?_)
  refine lv_goto (tgt := 4) hx hb dX11_allBooks_34 (by decide) ?_
  refine lv_iload_n hx hb dX11_allBooks_4 rfl (lv_at hl 0 rfl) ?_
  refine lv_bipush (v := 13) hx hb dX11_allBooks_5 (by decide) ?_
  refine lv_icmp_ge (tgt := 37) hx hb dX11_allBooks_7 (by decide) (fun _ => ?_) (fun c_27 => absurd c_27 (by decide))
  refine lv_iload_n hx hb dX11_allBooks_37 rfl (lv_at hl 1 rfl) ?_
  exact W.iret (v := 0) hx hb hr (fun t ht hW => ⟨_, rfl, rfl, ht⟩) (fun q h => by cases h) dX11_allBooks_38

set_option maxHeartbeats 4000000 in
set_option maxRecDepth 100000 in
theorem c_X11_now (l : Launch) (D : va_G) (y : Nat → ClassId) (sz : Nat) (mo : Nat) (fmo : List Value) (ms : Nat) (fms : Nat → Int32) (p0 : Int32) (hmo_0 : fmo[0]? = some (.int 0)) (hmo_6 : fmo[6]? = some (.ref ms)) (hms_e1 : fms 1 = 0) (hms_e4 : fms 4 = (-1)) (hms_e5 : fms 5 = 0) (hms_e6 : fms 6 = 0) (hms_e7 : fms 7 = 0) (hms_e138 : fms 138 = 0) (hms_e139 : fms 139 = 0) (hms_e140 : fms 140 = 0) (hms_e141 : fms 141 = 0) (hms_e142 : fms 142 = 0) (hms_e143 : fms 143 = 0) (hms_e144 : fms 144 = 0) (hms_e145 : fms 145 = 0) (hms_e146 : fms 146 = 0) (hms_e147 : fms 147 = 0) (hms_e148 : fms 148 = 0) (hms_e149 : fms 149 = 0) (hms_e150 : fms 150 = 0) : Met l yX11_now (px_w yX11_now cX11_now 4 (some .int)) ({ frames := 1, cells := 0, slots := 0, locals := 22 }) (va_Pc [.ref mo, .int p0] (px_P D y sz [(mo, .inr (11, fmo)), (ms, .inl (y 1, 765, .inl fms))])) (va_Qi (fun (r : Int32) (u : Unit) => r = px_now p0) (fun (u : Unit) t => True) (va_A [(mo, .inr (11, fmo)), (ms, .inl (y 1, 765, .inl fms))] sz)) 0 0 (va_A [(mo, .inr (11, fmo)), (ms, .inl (y 1, 765, .inl fms))] sz) := by
  refine Met.ofW (cc := cX11_now) (maxL := 4) (ret := (some .int)) (by decide) rfl ?_
  intro p e s m args below meth c s₁ B hml hv
  obtain ⟨rfl, hsz, hP, hK, hD0⟩ := hv
  have hx := B.exec
  have hb := B.bytes
  have hr := B.returns
  have hts := atoms_spec (ws := px_w yX11_now cX11_now 4 (some .int)) B.pre
  have hg : ∀ w ∈ gw, w.before [.ref mo, .int p0].toArray s = true := fun w h => hts w (List.mem_cons_of_mem _ h)
  have hown : s.vm.findClass RX11 = some m.cls := findClass_of_methodNamed B.named
  have hlocks := B.notSynchronized
  subst hsz
  have hD := hD0.self (sz := s.heap.size)
  generalize hAe : va_A [(mo, .inr (11, fmo)), (ms, .inl (y 1, 765, .inl fms))] s.heap.size = A at hD ⊢
  have hA : ∀ q : Nat, s.heap.size ≤ q → A q := fun q h => by rw [← hAe]; exact Or.inr h
  have hS : va_S A s.heap s.heap [] := va_S.rf
  have hP : va_P D vwCl [(mo, .inr (11, fmo)), (ms, .inl (y 1, 765, .inl fms))] s.heap := hP
  have hl := lv_entry ([.ref mo, .int p0]) (n := 4) (Nat.le_of_ble_eq_true rfl)
  rw [lg_entry_eq]
  generalize (lg_sl ([.ref mo, .int p0]) ++ List.replicate (4 - (lg_sl ([.ref mo, .int p0])).length) Slot.unset).toArray = ls at hl ⊢
  have hl : lv_has ls 4 [(0, .ref mo), (1, .int p0)] := hl
  refine lv_aload_n hx hb dX11_now_0 rfl (lv_at hl 0 rfl) ?_
  refine lv_iconst (v := 0) hx hb dX11_now_1 (by decide) ?_
  refine va_put (D := D) (ci := 11) (v := .int 0) (ty := .int) (C := RX11) (T := TX11) (N := 65) hx hb hg inGX11 tyX11 tyX11_ok nmX11 hown hK hP hD hS 0 rfl rfl 0 (by decide) (hg _ q_6_126) (fun _ h9 => h9) rfl (by decide +kernel) rfl rfl (px_len hmo_0) dX11_now_2 (fun H locs hP hD hS => ?_)
  have hP : va_P D vwCl [(mo, .inr (11, (fmo.set 0 (.int 0)))), (ms, .inl (y 1, 765, .inl fms))] H := hP
  have hD : va_D A [(mo, .inr (11, (fmo.set 0 (.int 0)))), (ms, .inl (y 1, 765, .inl fms))] := hD
  refine lv_aload_n hx hb dX11_now_5 rfl (lv_at hl 0 rfl) ?_
  refine va_get (D := D) (ci := 11) (v := .ref ms) (C := RX11) (T := TX11) (N := 65) hx hb hg inGX11 hown hK hP 0 rfl rfl 6 (by decide) (hg _ q_6_132) (fun _ h9 => h9) (px_sn (by decide) hmo_6) dX11_now_6 ?_
  refine lv_bipush (v := 7) hx hb dX11_now_9 (by decide) ?_
  refine va_iald hx hb hK hP 1 1 rfl rfl (i := 7) (px_in (by decide)) dX11_now_11 ?_
  refine px_top (v := 0) hms_e7 ?_
  refine lv_istore_n (lv' := [(2, .int 0), (0, .ref mo), (1, .int p0)]) hx hb dX11_now_12 rfl hl (by decide) rfl (fun ls hl => ?_)
  refine lv_iconst (v := 0) hx hb dX11_now_13 (by decide) ?_
  refine lv_istore_n (lv' := [(3, .int 0), (2, .int 0), (0, .ref mo), (1, .int p0)]) hx hb dX11_now_14 rfl hl (by decide) rfl (fun ls hl => ?_)
  refine lv_iload_n hx hb dX11_now_15 rfl (lv_at hl 0 rfl) ?_
  refine lv_aload_n hx hb dX11_now_16 rfl (lv_at hl 2 rfl) ?_
  refine va_get (D := D) (ci := 11) (v := .ref ms) (C := RX11) (T := TX11) (N := 65) hx hb hg inGX11 hown hK hP 0 rfl rfl 6 (by decide) (hg _ q_6_132) (fun _ h9 => h9) (px_sn (by decide) hmo_6) dX11_now_17 ?_
  refine lv_iconst (v := 1) hx hb dX11_now_20 (by decide) ?_
  refine va_iald hx hb hK hP 1 1 rfl rfl (i := 1) (px_in (by decide)) dX11_now_21 ?_
  refine px_top (v := 0) hms_e1 ?_
  refine lv_icmp_ge (tgt := 39) hx hb dX11_now_22 (by decide) (fun _ => ?_) (fun c_1 => absurd c_1 (by decide))
  refine lv_iload_n hx hb dX11_now_39 rfl (lv_at hl 3 rfl) ?_
  rcases pk_ix p0 (n := 6) (by decide) with h_2 | h_2 | ⟨j_h_2, hh_2, h_2⟩
  · refine lv_tableOut (tgt := 117) hx hb dX11_now_40 (Or.inl (Int32.lt_iff_toInt_lt.mp h_2)) (by decide) ?_
    refine lv_iconst (v := (-1)) hx hb dX11_now_117 (by decide) ?_
    exact W.iret (v := (-1)) hx hb hr (fun t ht hW => ⟨⟨_, (), rfl, (by show _ = px_now p0; unfold px_now; simp only [Int32.lt_iff_toInt_lt, Int32.le_iff_toInt_le, ← Int32.toInt_inj] at h_2; have e0 : (0 : Int32).toInt = 0 := rfl; first | (rw [if_pos (by omega)]; done) | (rw [if_neg (by omega)]; done)), trivial⟩, by subst hAe; exact hS.F ht⟩) (fun q h => by subst hAe; exact hS.2.2 q h) dX11_now_118
  · refine lv_tableOut (tgt := 117) hx hb dX11_now_40 (Or.inr (Int.lt_of_lt_of_le (by decide : (5 : Int) < (nI 6).toInt) (Int32.le_iff_toInt_le.mp h_2))) (by decide) ?_
    have h_2 : (6 : Int32) ≤ p0 := h_2
    refine lv_iconst (v := (-1)) hx hb dX11_now_117 (by decide) ?_
    exact W.iret (v := (-1)) hx hb hr (fun t ht hW => ⟨⟨_, (), rfl, (by show _ = px_now p0; unfold px_now; simp only [Int32.lt_iff_toInt_lt, Int32.le_iff_toInt_le, ← Int32.toInt_inj] at h_2; have e0 : (6 : Int32).toInt = 6 := rfl; first | (rw [if_pos (by omega)]; done) | (rw [if_neg (by omega)]; done)), trivial⟩, by subst hAe; exact hS.F ht⟩) (fun q h => by subst hAe; exact hS.2.2 q h) dX11_now_118
  · rcases (show j_h_2 = 0 ∨ j_h_2 = 1 ∨ j_h_2 = 2 ∨ j_h_2 = 3 ∨ j_h_2 = 4 ∨ j_h_2 = 5 by omega) with rfl | rfl | rfl | rfl | rfl | rfl
    · obtain rfl : p0 = 0 := h_2
      refine lv_tableIn (off := 40) (tgt := 80) hx hb dX11_now_40 (by decide) (by decide) (by decide) (by decide) ?_
      refine lv_aload_n hx hb dX11_now_80 rfl (lv_at hl 2 rfl) ?_
      refine va_get (D := D) (ci := 11) (v := .ref ms) (C := RX11) (T := TX11) (N := 65) hx hb hg inGX11 hown hK hP 0 rfl rfl 6 (by decide) (hg _ q_6_132) (fun _ h9 => h9) (px_sn (by decide) hmo_6) dX11_now_81 ?_
      refine lv_iconst (v := 4) hx hb dX11_now_84 (by decide) ?_
      refine va_iald hx hb hK hP 1 1 rfl rfl (i := 4) (px_in (by decide)) dX11_now_85 ?_
      refine px_top (v := (-1)) hms_e4 ?_
      exact W.iret (v := (-1)) hx hb hr (fun t ht hW => ⟨⟨_, (), rfl, (by decide), trivial⟩, by subst hAe; exact hS.F ht⟩) (fun q h => by subst hAe; exact hS.2.2 q h) dX11_now_86
    · obtain rfl : p0 = 1 := h_2
      refine lv_tableIn (off := 47) (tgt := 87) hx hb dX11_now_40 (by decide) (by decide) (by decide) (by decide) ?_
      refine lv_aload_n hx hb dX11_now_87 rfl (lv_at hl 2 rfl) ?_
      refine va_get (D := D) (ci := 11) (v := .ref ms) (C := RX11) (T := TX11) (N := 65) hx hb hg inGX11 hown hK hP 0 rfl rfl 6 (by decide) (hg _ q_6_132) (fun _ h9 => h9) (px_sn (by decide) hmo_6) dX11_now_88 ?_
      refine lv_bipush (v := 7) hx hb dX11_now_91 (by decide) ?_
      refine va_iald hx hb hK hP 1 1 rfl rfl (i := 7) (px_in (by decide)) dX11_now_93 ?_
      refine px_top (v := 0) hms_e7 ?_
      exact W.iret (v := 0) hx hb hr (fun t ht hW => ⟨⟨_, (), rfl, (by decide), trivial⟩, by subst hAe; exact hS.F ht⟩) (fun q h => by subst hAe; exact hS.2.2 q h) dX11_now_94
    · obtain rfl : p0 = 2 := h_2
      refine lv_tableIn (off := 55) (tgt := 95) hx hb dX11_now_40 (by decide) (by decide) (by decide) (by decide) ?_
      refine lv_aload_n hx hb dX11_now_95 rfl (lv_at hl 2 rfl) ?_
      refine va_get (D := D) (ci := 11) (v := .ref ms) (C := RX11) (T := TX11) (N := 65) hx hb hg inGX11 hown hK hP 0 rfl rfl 6 (by decide) (hg _ q_6_132) (fun _ h9 => h9) (px_sn (by decide) hmo_6) dX11_now_96 ?_
      refine lv_iconst (v := 5) hx hb dX11_now_99 (by decide) ?_
      refine va_iald hx hb hK hP 1 1 rfl rfl (i := 5) (px_in (by decide)) dX11_now_100 ?_
      refine px_top (v := 0) hms_e5 ?_
      exact W.iret (v := 0) hx hb hr (fun t ht hW => ⟨⟨_, (), rfl, (by decide), trivial⟩, by subst hAe; exact hS.F ht⟩) (fun q h => by subst hAe; exact hS.2.2 q h) dX11_now_101
    · obtain rfl : p0 = 3 := h_2
      refine lv_tableIn (off := 62) (tgt := 102) hx hb dX11_now_40 (by decide) (by decide) (by decide) (by decide) ?_
      refine lv_aload_n hx hb dX11_now_102 rfl (lv_at hl 2 rfl) ?_
      have hPc_3 := hP.sub (ws' := [(mo, .inr (11, (fmo.set 0 (.int 0)))), (ms, .inl (y 1, 765, .inl fms))]) [0, 1] rfl
      have hDc_3 := hD.sub (ws' := [(mo, .inr (11, (fmo.set 0 (.int 0)))), (ms, .inl (y 1, 765, .inl fms))]) [0, 1] (by decide) rfl
      refine vp_callSi (va_Run.run (va_runV (As := []) (rest := []) ⟨hx, hb, hml, hown, hg⟩ (c_X11_allBooks l D y H.size mo (fmo.set 0 (.int 0)) ms fms (px_sn (by decide) hmo_6) hms_e138 hms_e139 hms_e140 hms_e141 hms_e142 hms_e143 hms_e144 hms_e145 hms_e146 hms_e147 hms_e148 hms_e149 hms_e150) (cwV 0 hg (px_gV q_7_227 q_7_229 q_p_85 q_1_15 q_7_230) rfl rfl rfl (by decide +kernel) ⟨Nat.le_of_ble_eq_true rfl, Nat.le_of_ble_eq_true rfl⟩) (px_preV hK hPc_3 hDc_3 (ci := 11) (q0 := 0) rfl rfl) rfl rfl hl.1 rfl (lv_room (Nat.le_of_ble_eq_true rfl)) dX11_now_103 ⟨Nat.le_of_ble_eq_true rfl, Nat.le_of_ble_eq_true rfl⟩)) (fun r_3 hw_3 => ?_)
      obtain rfl : r_3 = 0 := hw_3
      exact W.iret (v := 0) hx hb hr (fun t ht hW => ⟨⟨_, (), rfl, (by decide), trivial⟩, by subst hAe; exact hS.F ht⟩) (fun q h => by subst hAe; exact hS.2.2 q h) dX11_now_106
    · obtain rfl : p0 = 4 := h_2
      refine lv_tableIn (off := 67) (tgt := 107) hx hb dX11_now_40 (by decide) (by decide) (by decide) (by decide) ?_
      refine lv_aload_n hx hb dX11_now_107 rfl (lv_at hl 2 rfl) ?_
      refine va_get (D := D) (ci := 11) (v := .ref ms) (C := RX11) (T := TX11) (N := 65) hx hb hg inGX11 hown hK hP 0 rfl rfl 6 (by decide) (hg _ q_6_132) (fun _ h9 => h9) (px_sn (by decide) hmo_6) dX11_now_108 ?_
      refine lv_bipush (v := 6) hx hb dX11_now_111 (by decide) ?_
      refine va_iald hx hb hK hP 1 1 rfl rfl (i := 6) (px_in (by decide)) dX11_now_113 ?_
      refine px_top (v := 0) hms_e6 ?_
      exact W.iret (v := 0) hx hb hr (fun t ht hW => ⟨⟨_, (), rfl, (by decide), trivial⟩, by subst hAe; exact hS.F ht⟩) (fun q h => by subst hAe; exact hS.2.2 q h) dX11_now_114
    · obtain rfl : p0 = 5 := h_2
      refine lv_tableIn (off := 75) (tgt := 115) hx hb dX11_now_40 (by decide) (by decide) (by decide) (by decide) ?_
      refine lv_iload_n hx hb dX11_now_115 rfl (lv_at hl 1 rfl) ?_
      exact W.iret (v := 0) hx hb hr (fun t ht hW => ⟨⟨_, (), rfl, (by decide), trivial⟩, by subst hAe; exact hS.F ht⟩) (fun q h => by subst hAe; exact hS.2.2 q h) dX11_now_116

set_option maxHeartbeats 4000000 in
set_option maxRecDepth 100000 in
theorem c_X11_taken (l : Launch) (D : va_G) (y : Nat → ClassId) (sz : Nat) (mo : Nat) (fmo : List Value) (p0 : Int32) (hmo_2 : fmo[2]? = some (.int 0)) (hmo_3 : fmo[3]? = some (.int 0)) (hmo_4 : fmo[4]? = some (.int 0)) (hmo_5 : fmo[5]? = some (.int 0)) : Met l yX11_taken (px_w yX11_taken cX11_taken 2 none) ({ frames := 0, cells := 0, slots := 0, locals := 0 }) (va_Pc [.ref mo, .int p0] (px_P D y sz [(mo, .inr (11, fmo))])) (va_Qv (fun (u : Unit) => True) (fun (u : Unit) t => va_P D vwCl [(mo, .inr (11, ((((fmo.set 3 (.int 0)).set 2 (.int 0)).set 4 (.int 0)).set 5 (.int p0))))] t.heap ∧ va_D (va_A [(mo, .inr (11, fmo))] sz) [(mo, .inr (11, ((((fmo.set 3 (.int 0)).set 2 (.int 0)).set 4 (.int 0)).set 5 (.int p0))))]) (va_A [(mo, .inr (11, fmo))] sz)) 0 0 (va_A [(mo, .inr (11, fmo))] sz) := by
  refine Met.ofW (cc := cX11_taken) (maxL := 2) (ret := none) (by decide) rfl ?_
  intro p e s m args below meth c s₁ B hml hv
  obtain ⟨rfl, hsz, hP, hK, hD0⟩ := hv
  have hx := B.exec
  have hb := B.bytes
  have hr := B.returns
  have hts := atoms_spec (ws := px_w yX11_taken cX11_taken 2 none) B.pre
  have hg : ∀ w ∈ gw, w.before [.ref mo, .int p0].toArray s = true := fun w h => hts w (List.mem_cons_of_mem _ h)
  have hown : s.vm.findClass RX11 = some m.cls := findClass_of_methodNamed B.named
  have hlocks := B.notSynchronized
  subst hsz
  have hD := hD0.self (sz := s.heap.size)
  generalize hAe : va_A [(mo, .inr (11, fmo))] s.heap.size = A at hD ⊢
  have hA : ∀ q : Nat, s.heap.size ≤ q → A q := fun q h => by rw [← hAe]; exact Or.inr h
  have hS : va_S A s.heap s.heap [] := va_S.rf
  have hP : va_P D vwCl [(mo, .inr (11, fmo))] s.heap := hP
  have hl := lv_entry ([.ref mo, .int p0]) (n := 2) (Nat.le_of_ble_eq_true rfl)
  rw [lg_entry_eq]
  generalize (lg_sl ([.ref mo, .int p0]) ++ List.replicate (2 - (lg_sl ([.ref mo, .int p0])).length) Slot.unset).toArray = ls at hl ⊢
  have hl : lv_has ls 2 [(0, .ref mo), (1, .int p0)] := hl
  refine lv_aload_n hx hb dX11_taken_0 rfl (lv_at hl 0 rfl) ?_
  refine lv_aload_n hx hb dX11_taken_1 rfl (lv_at hl 0 rfl) ?_
  refine va_get (D := D) (ci := 11) (v := .int 0) (C := RX11) (T := TX11) (N := 65) hx hb hg inGX11 hown hK hP 0 rfl rfl 2 (by decide) (hg _ q_6_128) (fun _ h9 => h9) hmo_2 dX11_taken_2 ?_
  refine va_put (D := D) (ci := 11) (v := .int 0) (ty := .int) (C := RX11) (T := TX11) (N := 65) hx hb hg inGX11 tyX11 tyX11_ok nmX11 hown hK hP hD hS 0 rfl rfl 3 (by decide) (hg _ q_6_129) (fun _ h9 => h9) rfl (by decide +kernel) rfl rfl (px_len hmo_3) dX11_taken_5 (fun H locs hP hD hS => ?_)
  have hP : va_P D vwCl [(mo, .inr (11, (fmo.set 3 (.int 0))))] H := hP
  have hD : va_D A [(mo, .inr (11, (fmo.set 3 (.int 0))))] := hD
  refine lv_aload_n hx hb dX11_taken_8 rfl (lv_at hl 0 rfl) ?_
  refine lv_iconst (v := 0) hx hb dX11_taken_9 (by decide) ?_
  refine va_put (D := D) (ci := 11) (v := .int 0) (ty := .int) (C := RX11) (T := TX11) (N := 65) hx hb hg inGX11 tyX11 tyX11_ok nmX11 hown hK hP hD hS 0 rfl rfl 2 (by decide) (hg _ q_6_128) (fun _ h9 => h9) rfl (by decide +kernel) rfl rfl (px_len (px_sn (by decide) hmo_2)) dX11_taken_10 (fun H locs hP hD hS => ?_)
  have hP : va_P D vwCl [(mo, .inr (11, ((fmo.set 3 (.int 0)).set 2 (.int 0))))] H := hP
  have hD : va_D A [(mo, .inr (11, ((fmo.set 3 (.int 0)).set 2 (.int 0))))] := hD
  refine lv_aload_n hx hb dX11_taken_13 rfl (lv_at hl 0 rfl) ?_
  refine lv_iconst (v := 0) hx hb dX11_taken_14 (by decide) ?_
  refine va_put (D := D) (ci := 11) (v := .int 0) (ty := .int) (C := RX11) (T := TX11) (N := 65) hx hb hg inGX11 tyX11 tyX11_ok nmX11 hown hK hP hD hS 0 rfl rfl 4 (by decide) (hg _ q_6_130) (fun _ h9 => h9) rfl (by decide +kernel) rfl rfl (px_len (px_sn (by decide) (px_sn (by decide) hmo_4))) dX11_taken_15 (fun H locs hP hD hS => ?_)
  have hP : va_P D vwCl [(mo, .inr (11, (((fmo.set 3 (.int 0)).set 2 (.int 0)).set 4 (.int 0))))] H := hP
  have hD : va_D A [(mo, .inr (11, (((fmo.set 3 (.int 0)).set 2 (.int 0)).set 4 (.int 0))))] := hD
  refine lv_aload_n hx hb dX11_taken_18 rfl (lv_at hl 0 rfl) ?_
  refine lv_iload_n hx hb dX11_taken_19 rfl (lv_at hl 1 rfl) ?_
  refine va_put (D := D) (ci := 11) (v := .int p0) (ty := .int) (C := RX11) (T := TX11) (N := 65) hx hb hg inGX11 tyX11 tyX11_ok nmX11 hown hK hP hD hS 0 rfl rfl 5 (by decide) (hg _ q_6_131) (fun _ h9 => h9) rfl (by decide +kernel) rfl rfl (px_len (px_sn (by decide) (px_sn (by decide) (px_sn (by decide) hmo_5)))) dX11_taken_20 (fun H locs hP hD hS => ?_)
  have hP : va_P D vwCl [(mo, .inr (11, ((((fmo.set 3 (.int 0)).set 2 (.int 0)).set 4 (.int 0)).set 5 (.int p0))))] H := hP
  have hD : va_D A [(mo, .inr (11, ((((fmo.set 3 (.int 0)).set 2 (.int 0)).set 4 (.int 0)).set 5 (.int p0))))] := hD
  have hP9 := hP.sub (ws' := [(mo, .inr (11, ((((fmo.set 3 (.int 0)).set 2 (.int 0)).set 4 (.int 0)).set 5 (.int p0))))]) [0] rfl
  have hD9 := hD.sub (ws' := [(mo, .inr (11, ((((fmo.set 3 (.int 0)).set 2 (.int 0)).set 4 (.int 0)).set 5 (.int p0))))]) [0] (by decide) rfl
  exact W.vret hx hb hr (fun t ht hW => ⟨⟨(), rfl, trivial, by rw [ht]; exact hP9, by subst hAe; exact hD9⟩, by subst hAe; exact hS.F ht⟩) (fun q h => by subst hAe; exact hS.2.2 q h) dX11_taken_23

set_option maxHeartbeats 4000000 in
set_option maxRecDepth 100000 in
theorem c_X11_play (l : Launch) (D : va_G) (y : Nat → ClassId) (sz : Nat) (mo : Nat) (fmo : List Value) (ms : Nat) (fms : Nat → Int32) (p0 : Int32) (hmo_0 : fmo[0]? = some (.int 0)) (hmo_2 : fmo[2]? = some (.int 0)) (hmo_3 : fmo[3]? = some (.int 0)) (hmo_4 : fmo[4]? = some (.int 0)) (hmo_5 : fmo[5]? = some (.int 0)) (hmo_6 : fmo[6]? = some (.ref ms)) (hms_e1 : fms 1 = 0) : Met l yX11_play (px_w yX11_play cX11_play 3 (some .int)) ({ frames := 1, cells := 0, slots := 0, locals := 22 }) (va_Pc [.ref mo, .int p0] (px_P D y sz [(mo, .inr (11, fmo)), (ms, .inl (y 1, 765, .inl fms))])) (va_Qi (fun (r : Int32) (u : Unit) => r = (-1)) (fun (u : Unit) t => True) (va_A [(mo, .inr (11, fmo)), (ms, .inl (y 1, 765, .inl fms))] sz)) 0 0 (va_A [(mo, .inr (11, fmo)), (ms, .inl (y 1, 765, .inl fms))] sz) := by
  refine Met.ofW (cc := cX11_play) (maxL := 3) (ret := (some .int)) (by decide) rfl ?_
  intro p e s m args below meth c s₁ B hml hv
  obtain ⟨rfl, hsz, hP, hK, hD0⟩ := hv
  have hx := B.exec
  have hb := B.bytes
  have hr := B.returns
  have hts := atoms_spec (ws := px_w yX11_play cX11_play 3 (some .int)) B.pre
  have hg : ∀ w ∈ gw, w.before [.ref mo, .int p0].toArray s = true := fun w h => hts w (List.mem_cons_of_mem _ h)
  have hown : s.vm.findClass RX11 = some m.cls := findClass_of_methodNamed B.named
  have hlocks := B.notSynchronized
  subst hsz
  have hD := hD0.self (sz := s.heap.size)
  generalize hAe : va_A [(mo, .inr (11, fmo)), (ms, .inl (y 1, 765, .inl fms))] s.heap.size = A at hD ⊢
  have hA : ∀ q : Nat, s.heap.size ≤ q → A q := fun q h => by rw [← hAe]; exact Or.inr h
  have hS : va_S A s.heap s.heap [] := va_S.rf
  have hP : va_P D vwCl [(mo, .inr (11, fmo)), (ms, .inl (y 1, 765, .inl fms))] s.heap := hP
  have hl := lv_entry ([.ref mo, .int p0]) (n := 3) (Nat.le_of_ble_eq_true rfl)
  rw [lg_entry_eq]
  generalize (lg_sl ([.ref mo, .int p0]) ++ List.replicate (3 - (lg_sl ([.ref mo, .int p0])).length) Slot.unset).toArray = ls at hl ⊢
  have hl : lv_has ls 3 [(0, .ref mo), (1, .int p0)] := hl
  refine lv_aload_n hx hb dX11_play_0 rfl (lv_at hl 0 rfl) ?_
  refine lv_iconst (v := 0) hx hb dX11_play_1 (by decide) ?_
  refine va_put (D := D) (ci := 11) (v := .int 0) (ty := .int) (C := RX11) (T := TX11) (N := 65) hx hb hg inGX11 tyX11 tyX11_ok nmX11 hown hK hP hD hS 0 rfl rfl 0 (by decide) (hg _ q_6_126) (fun _ h9 => h9) rfl (by decide +kernel) rfl rfl (px_len hmo_0) dX11_play_2 (fun H locs hP hD hS => ?_)
  have hP : va_P D vwCl [(mo, .inr (11, (fmo.set 0 (.int 0)))), (ms, .inl (y 1, 765, .inl fms))] H := hP
  have hD : va_D A [(mo, .inr (11, (fmo.set 0 (.int 0)))), (ms, .inl (y 1, 765, .inl fms))] := hD
  refine lv_aload_n hx hb dX11_play_5 rfl (lv_at hl 0 rfl) ?_
  refine lv_sipush (v := 940) hx hb dX11_play_6 (by decide) ?_
  have hPc_1 := hP.sub (ws' := [(mo, .inr (11, (fmo.set 0 (.int 0))))]) [0] rfl
  have hDc_1 := hD.sub (ws' := [(mo, .inr (11, (fmo.set 0 (.int 0))))]) [0] (by decide) rfl
  have hFc_1 := va_free (wc := [(mo, .inr (11, (fmo.set 0 (.int 0))))]) hD hS hA [0] rfl
  refine va_callv (va_runV (As := [.int 940]) (rest := []) ⟨hx, hb, hml, hown, hg⟩ (c_X11_taken l D y H.size mo (fmo.set 0 (.int 0)) 940 (px_sn (by decide) hmo_2) (px_sn (by decide) hmo_3) (px_sn (by decide) hmo_4) (px_sn (by decide) hmo_5)) (cwV 1 hg (px_gV q_7_87 q_7_89 q_p_59 q_1_15 q_7_90) rfl rfl rfl (by decide +kernel) ⟨Nat.le_of_ble_eq_true rfl, Nat.le_of_ble_eq_true rfl⟩) (px_preV hK hPc_1 hDc_1 (ci := 11) (q0 := 0) rfl rfl) rfl rfl hl.1 rfl (lv_room (Nat.le_of_ble_eq_true rfl)) dX11_play_9 ⟨Nat.le_of_ble_eq_true rfl, Nat.le_of_ble_eq_true rfl⟩) hS (fun q _ h => hFc_1 q h) hFc_1 (fun u_1 t_1 H1 locs ht_1 hvm_1 hw_1 hB_1 hz_1 hk_1 hS => ?_)
  refine W.cs (cells' := 0) (slots' := 0) rfl rfl ?_
  obtain ⟨hP1_1, hD1_1⟩ := hB_1
  rw [ht_1] at hP1_1
  obtain ⟨hP, hD⟩ := va_join (wr := [(ms, .inl (y 1, 765, .inl fms))]) (w1 := [(mo, .inr (11, (((((fmo.set 0 (.int 0)).set 3 (.int 0)).set 2 (.int 0)).set 4 (.int 0)).set 5 (.int 940))))]) hP hD [0] [1] rfl rfl (by decide) (by decide) hk_1 hFc_1 hP1_1 hD1_1
  generalize H1 = H at hP hS ⊢
  have hP : va_P D vwCl [(ms, .inl (y 1, 765, .inl fms)), (mo, .inr (11, (((((fmo.set 0 (.int 0)).set 3 (.int 0)).set 2 (.int 0)).set 4 (.int 0)).set 5 (.int 940))))] H := hP
  have hD : va_D A [(ms, .inl (y 1, 765, .inl fms)), (mo, .inr (11, (((((fmo.set 0 (.int 0)).set 3 (.int 0)).set 2 (.int 0)).set 4 (.int 0)).set 5 (.int 940))))] := hD
  refine lv_iload_n hx hb dX11_play_12 rfl (lv_at hl 1 rfl) ?_
  refine lv_iconst (v := 1) hx hb dX11_play_13 (by decide) ?_
  refine lv_sipush (v := 400) hx hb dX11_play_14 (by decide) ?_
  have hPc_2 := hP.sub (ws' := []) [] rfl
  have hDc_2 := hD.sub (ws' := []) [] (by decide) rfl
  refine vp_callSi (va_Run.run (va_runS (As := [.int p0, .int 1, .int 400]) (rest := []) ⟨hx, hb, hml, hown, hg⟩ (c_X11_isIn l D y H.size p0 1 400 ) (va_cwS 3 hg (px_gS q_7_121 q_7_122 q_1_15 q_7_123) rfl rfl rfl (by decide +kernel) ⟨Nat.le_of_ble_eq_true rfl, Nat.le_of_ble_eq_true rfl⟩) (px_preS hK hPc_2 hDc_2) rfl rfl hl.1 rfl (lv_room (Nat.le_of_ble_eq_true rfl)) dX11_play_17 ⟨Nat.le_of_ble_eq_true rfl, Nat.le_of_ble_eq_true rfl⟩)) (fun r_2 hw_2 => ?_)
  rcases hw_2 with ⟨rfl, g_2_0_0, g_2_0_1⟩ | ⟨rfl, g_2_1_0⟩ | ⟨rfl, g_2_2_0⟩
  · refine lv_if_eq (tgt := 46) hx hb dX11_play_20 (by decide) (fun c_3 => absurd c_3 (by decide)) (fun _ => ?_)
    refine lv_aload_n hx hb dX11_play_23 rfl (lv_at hl 0 rfl) ?_
    refine va_get (D := D) (ci := 11) (v := .ref ms) (C := RX11) (T := TX11) (N := 65) hx hb hg inGX11 hown hK hP 1 rfl rfl 6 (by decide) (hg _ q_6_132) (fun _ h9 => h9) (px_sn (by decide) (px_sn (by decide) (px_sn (by decide) (px_sn (by decide) (px_sn (by decide) hmo_6))))) dX11_play_24 ?_
    refine lv_iconst (v := 1) hx hb dX11_play_27 (by decide) ?_
    refine va_iald hx hb hK hP 0 1 rfl rfl (i := 1) (px_in (by decide)) dX11_play_28 ?_
    refine px_top (v := 0) hms_e1 ?_
    refine lv_iconst (v := 2) hx hb dX11_play_29 (by decide) ?_
    refine lv_icmp_lt (tgt := 46) hx hb dX11_play_30 (by decide) (fun _ => ?_) (fun c_4 => absurd c_4 (by decide))
    refine lv_iconst (v := (-1)) hx hb dX11_play_46 (by decide) ?_
    exact W.iret (v := (-1)) hx hb hr (fun t ht hW => ⟨⟨_, (), rfl, rfl, trivial⟩, by subst hAe; exact hS.F ht⟩) (fun q h => by subst hAe; exact hS.2.2 q h) dX11_play_47
  · refine lv_if_eq (tgt := 46) hx hb dX11_play_20 (by decide) (fun _ => ?_) (fun c_5 => absurd c_5 (by decide))
    refine lv_iconst (v := (-1)) hx hb dX11_play_46 (by decide) ?_
    exact W.iret (v := (-1)) hx hb hr (fun t ht hW => ⟨⟨_, (), rfl, rfl, trivial⟩, by subst hAe; exact hS.F ht⟩) (fun q h => by subst hAe; exact hS.2.2 q h) dX11_play_47
  · refine lv_if_eq (tgt := 46) hx hb dX11_play_20 (by decide) (fun _ => ?_) (fun c_6 => absurd c_6 (by decide))
    refine lv_iconst (v := (-1)) hx hb dX11_play_46 (by decide) ?_
    exact W.iret (v := (-1)) hx hb hr (fun t ht hW => ⟨⟨_, (), rfl, rfl, trivial⟩, by subst hAe; exact hS.F ht⟩) (fun q h => by subst hAe; exact hS.2.2 q h) dX11_play_47

set_option maxHeartbeats 4000000 in
set_option maxRecDepth 100000 in
theorem c_X11_four_0 (l : Launch) (D : va_G) (y : Nat → ClassId) (sz : Nat) (mo : Nat) (fmo : List Value) (mt : Nat) (fmt : Nat → Int32) (p0 : Int32) (hmo_1 : fmo[1]? = some (.ref mt)) (hmo_2 : fmo[2]? = some (.int 0)) : Met l yX11_four (px_w yX11_four cX11_four 3 none) ({ frames := 0, cells := 0, slots := 0, locals := 0 }) (va_Pc [.ref mo, .int p0] (px_P D y sz [(mo, .inr (11, fmo)), (mt, .inl (y 0, 940, .inl fmt))])) (va_Qv (fun (u : px_U) => True) (fun (u : px_U) t => va_P D vwCl [(mo, .inr (11, ((((fmo.set 2 (.int 1)).set 2 (.int 2)).set 2 (.int 3)).set 2 (.int 4)))), (mt, .inl (y 0, 940, .inl (u.2.1 0)))] t.heap ∧ va_D (va_A [(mo, .inr (11, fmo)), (mt, .inl (y 0, 940, .inl fmt))] sz) [(mo, .inr (11, ((((fmo.set 2 (.int 1)).set 2 (.int 2)).set 2 (.int 3)).set 2 (.int 4)))), (mt, .inl (y 0, 940, .inl (u.2.1 0)))]) (va_A [(mo, .inr (11, fmo)), (mt, .inl (y 0, 940, .inl fmt))] sz)) 0 0 (va_A [(mo, .inr (11, fmo)), (mt, .inl (y 0, 940, .inl fmt))] sz) := by
  refine Met.ofW (cc := cX11_four) (maxL := 3) (ret := none) (by decide) rfl ?_
  intro p e s m args below meth c s₁ B hml hv
  obtain ⟨rfl, hsz, hP, hK, hD0⟩ := hv
  have hx := B.exec
  have hb := B.bytes
  have hr := B.returns
  have hts := atoms_spec (ws := px_w yX11_four cX11_four 3 none) B.pre
  have hg : ∀ w ∈ gw, w.before [.ref mo, .int p0].toArray s = true := fun w h => hts w (List.mem_cons_of_mem _ h)
  have hown : s.vm.findClass RX11 = some m.cls := findClass_of_methodNamed B.named
  have hlocks := B.notSynchronized
  subst hsz
  have hD := hD0.self (sz := s.heap.size)
  generalize hAe : va_A [(mo, .inr (11, fmo)), (mt, .inl (y 0, 940, .inl fmt))] s.heap.size = A at hD ⊢
  have hA : ∀ q : Nat, s.heap.size ≤ q → A q := fun q h => by rw [← hAe]; exact Or.inr h
  have hS : va_S A s.heap s.heap [] := va_S.rf
  have hP : va_P D vwCl [(mo, .inr (11, fmo)), (mt, .inl (y 0, 940, .inl fmt))] s.heap := hP
  have hl := lv_entry ([.ref mo, .int p0]) (n := 3) (Nat.le_of_ble_eq_true rfl)
  rw [lg_entry_eq]
  generalize (lg_sl ([.ref mo, .int p0]) ++ List.replicate (3 - (lg_sl ([.ref mo, .int p0])).length) Slot.unset).toArray = ls at hl ⊢
  have hl : lv_has ls 3 [(0, .ref mo), (1, .int p0)] := hl
  refine lv_bipush (v := 24) hx hb dX11_four_0 (by decide) ?_
  refine lv_istore_n (lv' := [(2, .int 24), (0, .ref mo), (1, .int p0)]) hx hb dX11_four_2 rfl hl (by decide) rfl (fun ls hl => ?_)
  refine lv_iload_n hx hb dX11_four_3 rfl (lv_at hl 0 rfl) ?_
  refine lv_if_lt (tgt := 36) hx hb dX11_four_4 (by decide) (fun c_1 => absurd c_1 (by decide)) (fun _ => ?_)
  refine lv_aload_n hx hb dX11_four_7 rfl (lv_at hl 1 rfl) ?_
  refine va_get (D := D) (ci := 11) (v := .ref mt) (C := RX11) (T := TX11) (N := 65) hx hb hg inGX11 hown hK hP 0 rfl rfl 1 (by decide) (hg _ q_6_127) (fun _ h9 => h9) hmo_1 dX11_four_8 ?_
  refine lv_aload_n hx hb dX11_four_11 rfl (lv_at hl 1 rfl) ?_
  refine va_get (D := D) (ci := 11) (v := .int 0) (C := RX11) (T := TX11) (N := 65) hx hb hg inGX11 hown hK hP 0 rfl rfl 2 (by decide) (hg _ q_6_128) (fun _ h9 => h9) hmo_2 dX11_four_12 ?_
  refine lv_iload_n hx hb dX11_four_15 rfl (lv_at hl 2 rfl) ?_
  refine lv_iload_n hx hb dX11_four_16 rfl (lv_at hl 0 rfl) ?_
  refine lv_ishr hx hb dX11_four_17 ?_
  refine lv_i2b hx hb dX11_four_18 rfl ?_
  refine va_bast hx hb hK hP hD hS 1 0 rfl rfl (i := 0) (px_in (by decide)) dX11_four_19 (fun H locs hP hD hS => ?_)
  have hP : va_P D vwCl [(mo, .inr (11, fmo)), (mt, .inl (y 0, 940, .inl (upd fmt 0 (vp_nar .byte ((Int32.toInt8 (p0 >>> (24 &&& 31))).toInt32)))))] H := hP
  have hD : va_D A [(mo, .inr (11, fmo)), (mt, .inl (y 0, 940, .inl (upd fmt 0 (vp_nar .byte ((Int32.toInt8 (p0 >>> (24 &&& 31))).toInt32)))))] := hD
  refine lv_aload_n hx hb dX11_four_20 rfl (lv_at hl 1 rfl) ?_
  refine lv_dup hx hb dX11_four_21 rfl ?_
  refine va_get (D := D) (ci := 11) (v := .int 0) (C := RX11) (T := TX11) (N := 65) hx hb hg inGX11 hown hK hP 0 rfl rfl 2 (by decide) (hg _ q_6_128) (fun _ h9 => h9) hmo_2 dX11_four_22 ?_
  refine lv_iconst (v := 1) hx hb dX11_four_25 (by decide) ?_
  refine lv_iadd hx hb dX11_four_26 ?_
  refine px_top (v := 1) (by decide) ?_
  refine va_put (D := D) (ci := 11) (v := .int 1) (ty := .int) (C := RX11) (T := TX11) (N := 65) hx hb hg inGX11 tyX11 tyX11_ok nmX11 hown hK hP hD hS 0 rfl rfl 2 (by decide) (hg _ q_6_128) (fun _ h9 => h9) rfl (by decide +kernel) rfl rfl (px_len hmo_2) dX11_four_27 (fun H locs hP hD hS => ?_)
  have hP : va_P D vwCl [(mo, .inr (11, (fmo.set 2 (.int 1)))), (mt, .inl (y 0, 940, .inl (upd fmt 0 (vp_nar .byte ((Int32.toInt8 (p0 >>> (24 &&& 31))).toInt32)))))] H := hP
  have hD : va_D A [(mo, .inr (11, (fmo.set 2 (.int 1)))), (mt, .inl (y 0, 940, .inl (upd fmt 0 (vp_nar .byte ((Int32.toInt8 (p0 >>> (24 &&& 31))).toInt32)))))] := hD
  refine lv_iinc (v := 16) (lv' := [(2, .int 16), (0, .ref mo), (1, .int p0)]) hx hb dX11_four_30 hl (k := 0) rfl (by decide) (by decide) rfl (fun ls hl => ?_)
  refine lv_goto (tgt := 3) hx hb dX11_four_33 (by decide) ?_
  refine lv_iload_n hx hb dX11_four_3 rfl (lv_at hl 0 rfl) ?_
  refine lv_if_lt (tgt := 36) hx hb dX11_four_4 (by decide) (fun c_2 => absurd c_2 (by decide)) (fun _ => ?_)
  refine lv_aload_n hx hb dX11_four_7 rfl (lv_at hl 1 rfl) ?_
  refine va_get (D := D) (ci := 11) (v := .ref mt) (C := RX11) (T := TX11) (N := 65) hx hb hg inGX11 hown hK hP 0 rfl rfl 1 (by decide) (hg _ q_6_127) (fun _ h9 => h9) (px_sn (by decide) hmo_1) dX11_four_8 ?_
  refine lv_aload_n hx hb dX11_four_11 rfl (lv_at hl 1 rfl) ?_
  refine va_get (D := D) (ci := 11) (v := .int 1) (C := RX11) (T := TX11) (N := 65) hx hb hg inGX11 hown hK hP 0 rfl rfl 2 (by decide) (hg _ q_6_128) (fun _ h9 => h9) (px_ss hmo_2) dX11_four_12 ?_
  refine lv_iload_n hx hb dX11_four_15 rfl (lv_at hl 2 rfl) ?_
  refine lv_iload_n hx hb dX11_four_16 rfl (lv_at hl 0 rfl) ?_
  refine lv_ishr hx hb dX11_four_17 ?_
  refine lv_i2b hx hb dX11_four_18 rfl ?_
  refine va_bast hx hb hK hP hD hS 1 0 rfl rfl (i := 1) (px_in (by decide)) dX11_four_19 (fun H locs hP hD hS => ?_)
  have hP : va_P D vwCl [(mo, .inr (11, (fmo.set 2 (.int 1)))), (mt, .inl (y 0, 940, .inl (upd (upd fmt 0 (vp_nar .byte ((Int32.toInt8 (p0 >>> (24 &&& 31))).toInt32))) 1 (vp_nar .byte ((Int32.toInt8 (p0 >>> (16 &&& 31))).toInt32)))))] H := hP
  have hD : va_D A [(mo, .inr (11, (fmo.set 2 (.int 1)))), (mt, .inl (y 0, 940, .inl (upd (upd fmt 0 (vp_nar .byte ((Int32.toInt8 (p0 >>> (24 &&& 31))).toInt32))) 1 (vp_nar .byte ((Int32.toInt8 (p0 >>> (16 &&& 31))).toInt32)))))] := hD
  refine lv_aload_n hx hb dX11_four_20 rfl (lv_at hl 1 rfl) ?_
  refine lv_dup hx hb dX11_four_21 rfl ?_
  refine va_get (D := D) (ci := 11) (v := .int 1) (C := RX11) (T := TX11) (N := 65) hx hb hg inGX11 hown hK hP 0 rfl rfl 2 (by decide) (hg _ q_6_128) (fun _ h9 => h9) (px_ss hmo_2) dX11_four_22 ?_
  refine lv_iconst (v := 1) hx hb dX11_four_25 (by decide) ?_
  refine lv_iadd hx hb dX11_four_26 ?_
  refine px_top (v := 2) (by decide) ?_
  refine va_put (D := D) (ci := 11) (v := .int 2) (ty := .int) (C := RX11) (T := TX11) (N := 65) hx hb hg inGX11 tyX11 tyX11_ok nmX11 hown hK hP hD hS 0 rfl rfl 2 (by decide) (hg _ q_6_128) (fun _ h9 => h9) rfl (by decide +kernel) rfl rfl (px_len (px_ss hmo_2)) dX11_four_27 (fun H locs hP hD hS => ?_)
  have hP : va_P D vwCl [(mo, .inr (11, ((fmo.set 2 (.int 1)).set 2 (.int 2)))), (mt, .inl (y 0, 940, .inl (upd (upd fmt 0 (vp_nar .byte ((Int32.toInt8 (p0 >>> (24 &&& 31))).toInt32))) 1 (vp_nar .byte ((Int32.toInt8 (p0 >>> (16 &&& 31))).toInt32)))))] H := hP
  have hD : va_D A [(mo, .inr (11, ((fmo.set 2 (.int 1)).set 2 (.int 2)))), (mt, .inl (y 0, 940, .inl (upd (upd fmt 0 (vp_nar .byte ((Int32.toInt8 (p0 >>> (24 &&& 31))).toInt32))) 1 (vp_nar .byte ((Int32.toInt8 (p0 >>> (16 &&& 31))).toInt32)))))] := hD
  refine lv_iinc (v := 8) (lv' := [(2, .int 8), (0, .ref mo), (1, .int p0)]) hx hb dX11_four_30 hl (k := 0) rfl (by decide) (by decide) rfl (fun ls hl => ?_)
  refine lv_goto (tgt := 3) hx hb dX11_four_33 (by decide) ?_
  refine lv_iload_n hx hb dX11_four_3 rfl (lv_at hl 0 rfl) ?_
  refine lv_if_lt (tgt := 36) hx hb dX11_four_4 (by decide) (fun c_3 => absurd c_3 (by decide)) (fun _ => ?_)
  refine lv_aload_n hx hb dX11_four_7 rfl (lv_at hl 1 rfl) ?_
  refine va_get (D := D) (ci := 11) (v := .ref mt) (C := RX11) (T := TX11) (N := 65) hx hb hg inGX11 hown hK hP 0 rfl rfl 1 (by decide) (hg _ q_6_127) (fun _ h9 => h9) (px_sn (by decide) (px_sn (by decide) hmo_1)) dX11_four_8 ?_
  refine lv_aload_n hx hb dX11_four_11 rfl (lv_at hl 1 rfl) ?_
  refine va_get (D := D) (ci := 11) (v := .int 2) (C := RX11) (T := TX11) (N := 65) hx hb hg inGX11 hown hK hP 0 rfl rfl 2 (by decide) (hg _ q_6_128) (fun _ h9 => h9) (px_ss (px_ss hmo_2)) dX11_four_12 ?_
  refine lv_iload_n hx hb dX11_four_15 rfl (lv_at hl 2 rfl) ?_
  refine lv_iload_n hx hb dX11_four_16 rfl (lv_at hl 0 rfl) ?_
  refine lv_ishr hx hb dX11_four_17 ?_
  refine lv_i2b hx hb dX11_four_18 rfl ?_
  refine va_bast hx hb hK hP hD hS 1 0 rfl rfl (i := 2) (px_in (by decide)) dX11_four_19 (fun H locs hP hD hS => ?_)
  have hP : va_P D vwCl [(mo, .inr (11, ((fmo.set 2 (.int 1)).set 2 (.int 2)))), (mt, .inl (y 0, 940, .inl (upd (upd (upd fmt 0 (vp_nar .byte ((Int32.toInt8 (p0 >>> (24 &&& 31))).toInt32))) 1 (vp_nar .byte ((Int32.toInt8 (p0 >>> (16 &&& 31))).toInt32))) 2 (vp_nar .byte ((Int32.toInt8 (p0 >>> (8 &&& 31))).toInt32)))))] H := hP
  have hD : va_D A [(mo, .inr (11, ((fmo.set 2 (.int 1)).set 2 (.int 2)))), (mt, .inl (y 0, 940, .inl (upd (upd (upd fmt 0 (vp_nar .byte ((Int32.toInt8 (p0 >>> (24 &&& 31))).toInt32))) 1 (vp_nar .byte ((Int32.toInt8 (p0 >>> (16 &&& 31))).toInt32))) 2 (vp_nar .byte ((Int32.toInt8 (p0 >>> (8 &&& 31))).toInt32)))))] := hD
  refine lv_aload_n hx hb dX11_four_20 rfl (lv_at hl 1 rfl) ?_
  refine lv_dup hx hb dX11_four_21 rfl ?_
  refine va_get (D := D) (ci := 11) (v := .int 2) (C := RX11) (T := TX11) (N := 65) hx hb hg inGX11 hown hK hP 0 rfl rfl 2 (by decide) (hg _ q_6_128) (fun _ h9 => h9) (px_ss (px_ss hmo_2)) dX11_four_22 ?_
  refine lv_iconst (v := 1) hx hb dX11_four_25 (by decide) ?_
  refine lv_iadd hx hb dX11_four_26 ?_
  refine px_top (v := 3) (by decide) ?_
  refine va_put (D := D) (ci := 11) (v := .int 3) (ty := .int) (C := RX11) (T := TX11) (N := 65) hx hb hg inGX11 tyX11 tyX11_ok nmX11 hown hK hP hD hS 0 rfl rfl 2 (by decide) (hg _ q_6_128) (fun _ h9 => h9) rfl (by decide +kernel) rfl rfl (px_len (px_ss (px_ss hmo_2))) dX11_four_27 (fun H locs hP hD hS => ?_)
  have hP : va_P D vwCl [(mo, .inr (11, (((fmo.set 2 (.int 1)).set 2 (.int 2)).set 2 (.int 3)))), (mt, .inl (y 0, 940, .inl (upd (upd (upd fmt 0 (vp_nar .byte ((Int32.toInt8 (p0 >>> (24 &&& 31))).toInt32))) 1 (vp_nar .byte ((Int32.toInt8 (p0 >>> (16 &&& 31))).toInt32))) 2 (vp_nar .byte ((Int32.toInt8 (p0 >>> (8 &&& 31))).toInt32)))))] H := hP
  have hD : va_D A [(mo, .inr (11, (((fmo.set 2 (.int 1)).set 2 (.int 2)).set 2 (.int 3)))), (mt, .inl (y 0, 940, .inl (upd (upd (upd fmt 0 (vp_nar .byte ((Int32.toInt8 (p0 >>> (24 &&& 31))).toInt32))) 1 (vp_nar .byte ((Int32.toInt8 (p0 >>> (16 &&& 31))).toInt32))) 2 (vp_nar .byte ((Int32.toInt8 (p0 >>> (8 &&& 31))).toInt32)))))] := hD
  refine lv_iinc (v := 0) (lv' := [(2, .int 0), (0, .ref mo), (1, .int p0)]) hx hb dX11_four_30 hl (k := 0) rfl (by decide) (by decide) rfl (fun ls hl => ?_)
  refine lv_goto (tgt := 3) hx hb dX11_four_33 (by decide) ?_
  refine lv_iload_n hx hb dX11_four_3 rfl (lv_at hl 0 rfl) ?_
  refine lv_if_lt (tgt := 36) hx hb dX11_four_4 (by decide) (fun c_4 => absurd c_4 (by decide)) (fun _ => ?_)
  refine lv_aload_n hx hb dX11_four_7 rfl (lv_at hl 1 rfl) ?_
  refine va_get (D := D) (ci := 11) (v := .ref mt) (C := RX11) (T := TX11) (N := 65) hx hb hg inGX11 hown hK hP 0 rfl rfl 1 (by decide) (hg _ q_6_127) (fun _ h9 => h9) (px_sn (by decide) (px_sn (by decide) (px_sn (by decide) hmo_1))) dX11_four_8 ?_
  refine lv_aload_n hx hb dX11_four_11 rfl (lv_at hl 1 rfl) ?_
  refine va_get (D := D) (ci := 11) (v := .int 3) (C := RX11) (T := TX11) (N := 65) hx hb hg inGX11 hown hK hP 0 rfl rfl 2 (by decide) (hg _ q_6_128) (fun _ h9 => h9) (px_ss (px_ss (px_ss hmo_2))) dX11_four_12 ?_
  refine lv_iload_n hx hb dX11_four_15 rfl (lv_at hl 2 rfl) ?_
  refine lv_iload_n hx hb dX11_four_16 rfl (lv_at hl 0 rfl) ?_
  refine lv_ishr hx hb dX11_four_17 ?_
  refine lv_i2b hx hb dX11_four_18 rfl ?_
  refine va_bast hx hb hK hP hD hS 1 0 rfl rfl (i := 3) (px_in (by decide)) dX11_four_19 (fun H locs hP hD hS => ?_)
  have hP : va_P D vwCl [(mo, .inr (11, (((fmo.set 2 (.int 1)).set 2 (.int 2)).set 2 (.int 3)))), (mt, .inl (y 0, 940, .inl (upd (upd (upd (upd fmt 0 (vp_nar .byte ((Int32.toInt8 (p0 >>> (24 &&& 31))).toInt32))) 1 (vp_nar .byte ((Int32.toInt8 (p0 >>> (16 &&& 31))).toInt32))) 2 (vp_nar .byte ((Int32.toInt8 (p0 >>> (8 &&& 31))).toInt32))) 3 (vp_nar .byte ((Int32.toInt8 (p0 >>> (0 &&& 31))).toInt32)))))] H := hP
  have hD : va_D A [(mo, .inr (11, (((fmo.set 2 (.int 1)).set 2 (.int 2)).set 2 (.int 3)))), (mt, .inl (y 0, 940, .inl (upd (upd (upd (upd fmt 0 (vp_nar .byte ((Int32.toInt8 (p0 >>> (24 &&& 31))).toInt32))) 1 (vp_nar .byte ((Int32.toInt8 (p0 >>> (16 &&& 31))).toInt32))) 2 (vp_nar .byte ((Int32.toInt8 (p0 >>> (8 &&& 31))).toInt32))) 3 (vp_nar .byte ((Int32.toInt8 (p0 >>> (0 &&& 31))).toInt32)))))] := hD
  refine lv_aload_n hx hb dX11_four_20 rfl (lv_at hl 1 rfl) ?_
  refine lv_dup hx hb dX11_four_21 rfl ?_
  refine va_get (D := D) (ci := 11) (v := .int 3) (C := RX11) (T := TX11) (N := 65) hx hb hg inGX11 hown hK hP 0 rfl rfl 2 (by decide) (hg _ q_6_128) (fun _ h9 => h9) (px_ss (px_ss (px_ss hmo_2))) dX11_four_22 ?_
  refine lv_iconst (v := 1) hx hb dX11_four_25 (by decide) ?_
  refine lv_iadd hx hb dX11_four_26 ?_
  refine px_top (v := 4) (by decide) ?_
  refine va_put (D := D) (ci := 11) (v := .int 4) (ty := .int) (C := RX11) (T := TX11) (N := 65) hx hb hg inGX11 tyX11 tyX11_ok nmX11 hown hK hP hD hS 0 rfl rfl 2 (by decide) (hg _ q_6_128) (fun _ h9 => h9) rfl (by decide +kernel) rfl rfl (px_len (px_ss (px_ss (px_ss hmo_2)))) dX11_four_27 (fun H locs hP hD hS => ?_)
  have hP : va_P D vwCl [(mo, .inr (11, ((((fmo.set 2 (.int 1)).set 2 (.int 2)).set 2 (.int 3)).set 2 (.int 4)))), (mt, .inl (y 0, 940, .inl (upd (upd (upd (upd fmt 0 (vp_nar .byte ((Int32.toInt8 (p0 >>> (24 &&& 31))).toInt32))) 1 (vp_nar .byte ((Int32.toInt8 (p0 >>> (16 &&& 31))).toInt32))) 2 (vp_nar .byte ((Int32.toInt8 (p0 >>> (8 &&& 31))).toInt32))) 3 (vp_nar .byte ((Int32.toInt8 (p0 >>> (0 &&& 31))).toInt32)))))] H := hP
  have hD : va_D A [(mo, .inr (11, ((((fmo.set 2 (.int 1)).set 2 (.int 2)).set 2 (.int 3)).set 2 (.int 4)))), (mt, .inl (y 0, 940, .inl (upd (upd (upd (upd fmt 0 (vp_nar .byte ((Int32.toInt8 (p0 >>> (24 &&& 31))).toInt32))) 1 (vp_nar .byte ((Int32.toInt8 (p0 >>> (16 &&& 31))).toInt32))) 2 (vp_nar .byte ((Int32.toInt8 (p0 >>> (8 &&& 31))).toInt32))) 3 (vp_nar .byte ((Int32.toInt8 (p0 >>> (0 &&& 31))).toInt32)))))] := hD
  refine lv_iinc (v := (-8)) (lv' := [(2, .int (-8)), (0, .ref mo), (1, .int p0)]) hx hb dX11_four_30 hl (k := 0) rfl (by decide) (by decide) rfl (fun ls hl => ?_)
  refine lv_goto (tgt := 3) hx hb dX11_four_33 (by decide) ?_
  refine lv_iload_n hx hb dX11_four_3 rfl (lv_at hl 0 rfl) ?_
  refine lv_if_lt (tgt := 36) hx hb dX11_four_4 (by decide) (fun _ => ?_) (fun c_5 => absurd c_5 (by decide))
  have hP9 := hP.sub (ws' := [(mo, .inr (11, ((((fmo.set 2 (.int 1)).set 2 (.int 2)).set 2 (.int 3)).set 2 (.int 4)))), (mt, .inl (y 0, 940, .inl (upd (upd (upd (upd fmt 0 (vp_nar .byte ((Int32.toInt8 (p0 >>> (24 &&& 31))).toInt32))) 1 (vp_nar .byte ((Int32.toInt8 (p0 >>> (16 &&& 31))).toInt32))) 2 (vp_nar .byte ((Int32.toInt8 (p0 >>> (8 &&& 31))).toInt32))) 3 (vp_nar .byte ((Int32.toInt8 (p0 >>> (0 &&& 31))).toInt32)))))]) [0, 1] rfl
  have hD9 := hD.sub (ws' := [(mo, .inr (11, ((((fmo.set 2 (.int 1)).set 2 (.int 2)).set 2 (.int 3)).set 2 (.int 4)))), (mt, .inl (y 0, 940, .inl (upd (upd (upd (upd fmt 0 (vp_nar .byte ((Int32.toInt8 (p0 >>> (24 &&& 31))).toInt32))) 1 (vp_nar .byte ((Int32.toInt8 (p0 >>> (16 &&& 31))).toInt32))) 2 (vp_nar .byte ((Int32.toInt8 (p0 >>> (8 &&& 31))).toInt32))) 3 (vp_nar .byte ((Int32.toInt8 (p0 >>> (0 &&& 31))).toInt32)))))]) [0, 1] (by decide) rfl
  exact W.vret hx hb hr (fun t ht hW => ⟨⟨(px_v [], px_vi [(upd (upd (upd (upd fmt 0 (vp_nar .byte ((Int32.toInt8 (p0 >>> (24 &&& 31))).toInt32))) 1 (vp_nar .byte ((Int32.toInt8 (p0 >>> (16 &&& 31))).toInt32))) 2 (vp_nar .byte ((Int32.toInt8 (p0 >>> (8 &&& 31))).toInt32))) 3 (vp_nar .byte ((Int32.toInt8 (p0 >>> (0 &&& 31))).toInt32)))], px_vl []), rfl, trivial, by rw [ht]; exact hP9, by subst hAe; exact hD9⟩, by subst hAe; exact hS.F ht⟩) (fun q h => by subst hAe; exact hS.2.2 q h) dX11_four_36

set_option maxHeartbeats 4000000 in
set_option maxRecDepth 100000 in
theorem c_X11_four_4 (l : Launch) (D : va_G) (y : Nat → ClassId) (sz : Nat) (mo : Nat) (fmo : List Value) (mt : Nat) (fmt : Nat → Int32) (p0 : Int32) (hmo_1 : fmo[1]? = some (.ref mt)) (hmo_2 : fmo[2]? = some (.int 4)) : Met l yX11_four (px_w yX11_four cX11_four 3 none) ({ frames := 0, cells := 0, slots := 0, locals := 0 }) (va_Pc [.ref mo, .int p0] (px_P D y sz [(mo, .inr (11, fmo)), (mt, .inl (y 0, 940, .inl fmt))])) (va_Qv (fun (u : px_U) => True) (fun (u : px_U) t => va_P D vwCl [(mo, .inr (11, ((((fmo.set 2 (.int 5)).set 2 (.int 6)).set 2 (.int 7)).set 2 (.int 8)))), (mt, .inl (y 0, 940, .inl (u.2.1 0)))] t.heap ∧ va_D (va_A [(mo, .inr (11, fmo)), (mt, .inl (y 0, 940, .inl fmt))] sz) [(mo, .inr (11, ((((fmo.set 2 (.int 5)).set 2 (.int 6)).set 2 (.int 7)).set 2 (.int 8)))), (mt, .inl (y 0, 940, .inl (u.2.1 0)))]) (va_A [(mo, .inr (11, fmo)), (mt, .inl (y 0, 940, .inl fmt))] sz)) 0 0 (va_A [(mo, .inr (11, fmo)), (mt, .inl (y 0, 940, .inl fmt))] sz) := by
  refine Met.ofW (cc := cX11_four) (maxL := 3) (ret := none) (by decide) rfl ?_
  intro p e s m args below meth c s₁ B hml hv
  obtain ⟨rfl, hsz, hP, hK, hD0⟩ := hv
  have hx := B.exec
  have hb := B.bytes
  have hr := B.returns
  have hts := atoms_spec (ws := px_w yX11_four cX11_four 3 none) B.pre
  have hg : ∀ w ∈ gw, w.before [.ref mo, .int p0].toArray s = true := fun w h => hts w (List.mem_cons_of_mem _ h)
  have hown : s.vm.findClass RX11 = some m.cls := findClass_of_methodNamed B.named
  have hlocks := B.notSynchronized
  subst hsz
  have hD := hD0.self (sz := s.heap.size)
  generalize hAe : va_A [(mo, .inr (11, fmo)), (mt, .inl (y 0, 940, .inl fmt))] s.heap.size = A at hD ⊢
  have hA : ∀ q : Nat, s.heap.size ≤ q → A q := fun q h => by rw [← hAe]; exact Or.inr h
  have hS : va_S A s.heap s.heap [] := va_S.rf
  have hP : va_P D vwCl [(mo, .inr (11, fmo)), (mt, .inl (y 0, 940, .inl fmt))] s.heap := hP
  have hl := lv_entry ([.ref mo, .int p0]) (n := 3) (Nat.le_of_ble_eq_true rfl)
  rw [lg_entry_eq]
  generalize (lg_sl ([.ref mo, .int p0]) ++ List.replicate (3 - (lg_sl ([.ref mo, .int p0])).length) Slot.unset).toArray = ls at hl ⊢
  have hl : lv_has ls 3 [(0, .ref mo), (1, .int p0)] := hl
  refine lv_bipush (v := 24) hx hb dX11_four_0 (by decide) ?_
  refine lv_istore_n (lv' := [(2, .int 24), (0, .ref mo), (1, .int p0)]) hx hb dX11_four_2 rfl hl (by decide) rfl (fun ls hl => ?_)
  refine lv_iload_n hx hb dX11_four_3 rfl (lv_at hl 0 rfl) ?_
  refine lv_if_lt (tgt := 36) hx hb dX11_four_4 (by decide) (fun c_1 => absurd c_1 (by decide)) (fun _ => ?_)
  refine lv_aload_n hx hb dX11_four_7 rfl (lv_at hl 1 rfl) ?_
  refine va_get (D := D) (ci := 11) (v := .ref mt) (C := RX11) (T := TX11) (N := 65) hx hb hg inGX11 hown hK hP 0 rfl rfl 1 (by decide) (hg _ q_6_127) (fun _ h9 => h9) hmo_1 dX11_four_8 ?_
  refine lv_aload_n hx hb dX11_four_11 rfl (lv_at hl 1 rfl) ?_
  refine va_get (D := D) (ci := 11) (v := .int 4) (C := RX11) (T := TX11) (N := 65) hx hb hg inGX11 hown hK hP 0 rfl rfl 2 (by decide) (hg _ q_6_128) (fun _ h9 => h9) hmo_2 dX11_four_12 ?_
  refine lv_iload_n hx hb dX11_four_15 rfl (lv_at hl 2 rfl) ?_
  refine lv_iload_n hx hb dX11_four_16 rfl (lv_at hl 0 rfl) ?_
  refine lv_ishr hx hb dX11_four_17 ?_
  refine lv_i2b hx hb dX11_four_18 rfl ?_
  refine va_bast hx hb hK hP hD hS 1 0 rfl rfl (i := 4) (px_in (by decide)) dX11_four_19 (fun H locs hP hD hS => ?_)
  have hP : va_P D vwCl [(mo, .inr (11, fmo)), (mt, .inl (y 0, 940, .inl (upd fmt 4 (vp_nar .byte ((Int32.toInt8 (p0 >>> (24 &&& 31))).toInt32)))))] H := hP
  have hD : va_D A [(mo, .inr (11, fmo)), (mt, .inl (y 0, 940, .inl (upd fmt 4 (vp_nar .byte ((Int32.toInt8 (p0 >>> (24 &&& 31))).toInt32)))))] := hD
  refine lv_aload_n hx hb dX11_four_20 rfl (lv_at hl 1 rfl) ?_
  refine lv_dup hx hb dX11_four_21 rfl ?_
  refine va_get (D := D) (ci := 11) (v := .int 4) (C := RX11) (T := TX11) (N := 65) hx hb hg inGX11 hown hK hP 0 rfl rfl 2 (by decide) (hg _ q_6_128) (fun _ h9 => h9) hmo_2 dX11_four_22 ?_
  refine lv_iconst (v := 1) hx hb dX11_four_25 (by decide) ?_
  refine lv_iadd hx hb dX11_four_26 ?_
  refine px_top (v := 5) (by decide) ?_
  refine va_put (D := D) (ci := 11) (v := .int 5) (ty := .int) (C := RX11) (T := TX11) (N := 65) hx hb hg inGX11 tyX11 tyX11_ok nmX11 hown hK hP hD hS 0 rfl rfl 2 (by decide) (hg _ q_6_128) (fun _ h9 => h9) rfl (by decide +kernel) rfl rfl (px_len hmo_2) dX11_four_27 (fun H locs hP hD hS => ?_)
  have hP : va_P D vwCl [(mo, .inr (11, (fmo.set 2 (.int 5)))), (mt, .inl (y 0, 940, .inl (upd fmt 4 (vp_nar .byte ((Int32.toInt8 (p0 >>> (24 &&& 31))).toInt32)))))] H := hP
  have hD : va_D A [(mo, .inr (11, (fmo.set 2 (.int 5)))), (mt, .inl (y 0, 940, .inl (upd fmt 4 (vp_nar .byte ((Int32.toInt8 (p0 >>> (24 &&& 31))).toInt32)))))] := hD
  refine lv_iinc (v := 16) (lv' := [(2, .int 16), (0, .ref mo), (1, .int p0)]) hx hb dX11_four_30 hl (k := 0) rfl (by decide) (by decide) rfl (fun ls hl => ?_)
  refine lv_goto (tgt := 3) hx hb dX11_four_33 (by decide) ?_
  refine lv_iload_n hx hb dX11_four_3 rfl (lv_at hl 0 rfl) ?_
  refine lv_if_lt (tgt := 36) hx hb dX11_four_4 (by decide) (fun c_2 => absurd c_2 (by decide)) (fun _ => ?_)
  refine lv_aload_n hx hb dX11_four_7 rfl (lv_at hl 1 rfl) ?_
  refine va_get (D := D) (ci := 11) (v := .ref mt) (C := RX11) (T := TX11) (N := 65) hx hb hg inGX11 hown hK hP 0 rfl rfl 1 (by decide) (hg _ q_6_127) (fun _ h9 => h9) (px_sn (by decide) hmo_1) dX11_four_8 ?_
  refine lv_aload_n hx hb dX11_four_11 rfl (lv_at hl 1 rfl) ?_
  refine va_get (D := D) (ci := 11) (v := .int 5) (C := RX11) (T := TX11) (N := 65) hx hb hg inGX11 hown hK hP 0 rfl rfl 2 (by decide) (hg _ q_6_128) (fun _ h9 => h9) (px_ss hmo_2) dX11_four_12 ?_
  refine lv_iload_n hx hb dX11_four_15 rfl (lv_at hl 2 rfl) ?_
  refine lv_iload_n hx hb dX11_four_16 rfl (lv_at hl 0 rfl) ?_
  refine lv_ishr hx hb dX11_four_17 ?_
  refine lv_i2b hx hb dX11_four_18 rfl ?_
  refine va_bast hx hb hK hP hD hS 1 0 rfl rfl (i := 5) (px_in (by decide)) dX11_four_19 (fun H locs hP hD hS => ?_)
  have hP : va_P D vwCl [(mo, .inr (11, (fmo.set 2 (.int 5)))), (mt, .inl (y 0, 940, .inl (upd (upd fmt 4 (vp_nar .byte ((Int32.toInt8 (p0 >>> (24 &&& 31))).toInt32))) 5 (vp_nar .byte ((Int32.toInt8 (p0 >>> (16 &&& 31))).toInt32)))))] H := hP
  have hD : va_D A [(mo, .inr (11, (fmo.set 2 (.int 5)))), (mt, .inl (y 0, 940, .inl (upd (upd fmt 4 (vp_nar .byte ((Int32.toInt8 (p0 >>> (24 &&& 31))).toInt32))) 5 (vp_nar .byte ((Int32.toInt8 (p0 >>> (16 &&& 31))).toInt32)))))] := hD
  refine lv_aload_n hx hb dX11_four_20 rfl (lv_at hl 1 rfl) ?_
  refine lv_dup hx hb dX11_four_21 rfl ?_
  refine va_get (D := D) (ci := 11) (v := .int 5) (C := RX11) (T := TX11) (N := 65) hx hb hg inGX11 hown hK hP 0 rfl rfl 2 (by decide) (hg _ q_6_128) (fun _ h9 => h9) (px_ss hmo_2) dX11_four_22 ?_
  refine lv_iconst (v := 1) hx hb dX11_four_25 (by decide) ?_
  refine lv_iadd hx hb dX11_four_26 ?_
  refine px_top (v := 6) (by decide) ?_
  refine va_put (D := D) (ci := 11) (v := .int 6) (ty := .int) (C := RX11) (T := TX11) (N := 65) hx hb hg inGX11 tyX11 tyX11_ok nmX11 hown hK hP hD hS 0 rfl rfl 2 (by decide) (hg _ q_6_128) (fun _ h9 => h9) rfl (by decide +kernel) rfl rfl (px_len (px_ss hmo_2)) dX11_four_27 (fun H locs hP hD hS => ?_)
  have hP : va_P D vwCl [(mo, .inr (11, ((fmo.set 2 (.int 5)).set 2 (.int 6)))), (mt, .inl (y 0, 940, .inl (upd (upd fmt 4 (vp_nar .byte ((Int32.toInt8 (p0 >>> (24 &&& 31))).toInt32))) 5 (vp_nar .byte ((Int32.toInt8 (p0 >>> (16 &&& 31))).toInt32)))))] H := hP
  have hD : va_D A [(mo, .inr (11, ((fmo.set 2 (.int 5)).set 2 (.int 6)))), (mt, .inl (y 0, 940, .inl (upd (upd fmt 4 (vp_nar .byte ((Int32.toInt8 (p0 >>> (24 &&& 31))).toInt32))) 5 (vp_nar .byte ((Int32.toInt8 (p0 >>> (16 &&& 31))).toInt32)))))] := hD
  refine lv_iinc (v := 8) (lv' := [(2, .int 8), (0, .ref mo), (1, .int p0)]) hx hb dX11_four_30 hl (k := 0) rfl (by decide) (by decide) rfl (fun ls hl => ?_)
  refine lv_goto (tgt := 3) hx hb dX11_four_33 (by decide) ?_
  refine lv_iload_n hx hb dX11_four_3 rfl (lv_at hl 0 rfl) ?_
  refine lv_if_lt (tgt := 36) hx hb dX11_four_4 (by decide) (fun c_3 => absurd c_3 (by decide)) (fun _ => ?_)
  refine lv_aload_n hx hb dX11_four_7 rfl (lv_at hl 1 rfl) ?_
  refine va_get (D := D) (ci := 11) (v := .ref mt) (C := RX11) (T := TX11) (N := 65) hx hb hg inGX11 hown hK hP 0 rfl rfl 1 (by decide) (hg _ q_6_127) (fun _ h9 => h9) (px_sn (by decide) (px_sn (by decide) hmo_1)) dX11_four_8 ?_
  refine lv_aload_n hx hb dX11_four_11 rfl (lv_at hl 1 rfl) ?_
  refine va_get (D := D) (ci := 11) (v := .int 6) (C := RX11) (T := TX11) (N := 65) hx hb hg inGX11 hown hK hP 0 rfl rfl 2 (by decide) (hg _ q_6_128) (fun _ h9 => h9) (px_ss (px_ss hmo_2)) dX11_four_12 ?_
  refine lv_iload_n hx hb dX11_four_15 rfl (lv_at hl 2 rfl) ?_
  refine lv_iload_n hx hb dX11_four_16 rfl (lv_at hl 0 rfl) ?_
  refine lv_ishr hx hb dX11_four_17 ?_
  refine lv_i2b hx hb dX11_four_18 rfl ?_
  refine va_bast hx hb hK hP hD hS 1 0 rfl rfl (i := 6) (px_in (by decide)) dX11_four_19 (fun H locs hP hD hS => ?_)
  have hP : va_P D vwCl [(mo, .inr (11, ((fmo.set 2 (.int 5)).set 2 (.int 6)))), (mt, .inl (y 0, 940, .inl (upd (upd (upd fmt 4 (vp_nar .byte ((Int32.toInt8 (p0 >>> (24 &&& 31))).toInt32))) 5 (vp_nar .byte ((Int32.toInt8 (p0 >>> (16 &&& 31))).toInt32))) 6 (vp_nar .byte ((Int32.toInt8 (p0 >>> (8 &&& 31))).toInt32)))))] H := hP
  have hD : va_D A [(mo, .inr (11, ((fmo.set 2 (.int 5)).set 2 (.int 6)))), (mt, .inl (y 0, 940, .inl (upd (upd (upd fmt 4 (vp_nar .byte ((Int32.toInt8 (p0 >>> (24 &&& 31))).toInt32))) 5 (vp_nar .byte ((Int32.toInt8 (p0 >>> (16 &&& 31))).toInt32))) 6 (vp_nar .byte ((Int32.toInt8 (p0 >>> (8 &&& 31))).toInt32)))))] := hD
  refine lv_aload_n hx hb dX11_four_20 rfl (lv_at hl 1 rfl) ?_
  refine lv_dup hx hb dX11_four_21 rfl ?_
  refine va_get (D := D) (ci := 11) (v := .int 6) (C := RX11) (T := TX11) (N := 65) hx hb hg inGX11 hown hK hP 0 rfl rfl 2 (by decide) (hg _ q_6_128) (fun _ h9 => h9) (px_ss (px_ss hmo_2)) dX11_four_22 ?_
  refine lv_iconst (v := 1) hx hb dX11_four_25 (by decide) ?_
  refine lv_iadd hx hb dX11_four_26 ?_
  refine px_top (v := 7) (by decide) ?_
  refine va_put (D := D) (ci := 11) (v := .int 7) (ty := .int) (C := RX11) (T := TX11) (N := 65) hx hb hg inGX11 tyX11 tyX11_ok nmX11 hown hK hP hD hS 0 rfl rfl 2 (by decide) (hg _ q_6_128) (fun _ h9 => h9) rfl (by decide +kernel) rfl rfl (px_len (px_ss (px_ss hmo_2))) dX11_four_27 (fun H locs hP hD hS => ?_)
  have hP : va_P D vwCl [(mo, .inr (11, (((fmo.set 2 (.int 5)).set 2 (.int 6)).set 2 (.int 7)))), (mt, .inl (y 0, 940, .inl (upd (upd (upd fmt 4 (vp_nar .byte ((Int32.toInt8 (p0 >>> (24 &&& 31))).toInt32))) 5 (vp_nar .byte ((Int32.toInt8 (p0 >>> (16 &&& 31))).toInt32))) 6 (vp_nar .byte ((Int32.toInt8 (p0 >>> (8 &&& 31))).toInt32)))))] H := hP
  have hD : va_D A [(mo, .inr (11, (((fmo.set 2 (.int 5)).set 2 (.int 6)).set 2 (.int 7)))), (mt, .inl (y 0, 940, .inl (upd (upd (upd fmt 4 (vp_nar .byte ((Int32.toInt8 (p0 >>> (24 &&& 31))).toInt32))) 5 (vp_nar .byte ((Int32.toInt8 (p0 >>> (16 &&& 31))).toInt32))) 6 (vp_nar .byte ((Int32.toInt8 (p0 >>> (8 &&& 31))).toInt32)))))] := hD
  refine lv_iinc (v := 0) (lv' := [(2, .int 0), (0, .ref mo), (1, .int p0)]) hx hb dX11_four_30 hl (k := 0) rfl (by decide) (by decide) rfl (fun ls hl => ?_)
  refine lv_goto (tgt := 3) hx hb dX11_four_33 (by decide) ?_
  refine lv_iload_n hx hb dX11_four_3 rfl (lv_at hl 0 rfl) ?_
  refine lv_if_lt (tgt := 36) hx hb dX11_four_4 (by decide) (fun c_4 => absurd c_4 (by decide)) (fun _ => ?_)
  refine lv_aload_n hx hb dX11_four_7 rfl (lv_at hl 1 rfl) ?_
  refine va_get (D := D) (ci := 11) (v := .ref mt) (C := RX11) (T := TX11) (N := 65) hx hb hg inGX11 hown hK hP 0 rfl rfl 1 (by decide) (hg _ q_6_127) (fun _ h9 => h9) (px_sn (by decide) (px_sn (by decide) (px_sn (by decide) hmo_1))) dX11_four_8 ?_
  refine lv_aload_n hx hb dX11_four_11 rfl (lv_at hl 1 rfl) ?_
  refine va_get (D := D) (ci := 11) (v := .int 7) (C := RX11) (T := TX11) (N := 65) hx hb hg inGX11 hown hK hP 0 rfl rfl 2 (by decide) (hg _ q_6_128) (fun _ h9 => h9) (px_ss (px_ss (px_ss hmo_2))) dX11_four_12 ?_
  refine lv_iload_n hx hb dX11_four_15 rfl (lv_at hl 2 rfl) ?_
  refine lv_iload_n hx hb dX11_four_16 rfl (lv_at hl 0 rfl) ?_
  refine lv_ishr hx hb dX11_four_17 ?_
  refine lv_i2b hx hb dX11_four_18 rfl ?_
  refine va_bast hx hb hK hP hD hS 1 0 rfl rfl (i := 7) (px_in (by decide)) dX11_four_19 (fun H locs hP hD hS => ?_)
  have hP : va_P D vwCl [(mo, .inr (11, (((fmo.set 2 (.int 5)).set 2 (.int 6)).set 2 (.int 7)))), (mt, .inl (y 0, 940, .inl (upd (upd (upd (upd fmt 4 (vp_nar .byte ((Int32.toInt8 (p0 >>> (24 &&& 31))).toInt32))) 5 (vp_nar .byte ((Int32.toInt8 (p0 >>> (16 &&& 31))).toInt32))) 6 (vp_nar .byte ((Int32.toInt8 (p0 >>> (8 &&& 31))).toInt32))) 7 (vp_nar .byte ((Int32.toInt8 (p0 >>> (0 &&& 31))).toInt32)))))] H := hP
  have hD : va_D A [(mo, .inr (11, (((fmo.set 2 (.int 5)).set 2 (.int 6)).set 2 (.int 7)))), (mt, .inl (y 0, 940, .inl (upd (upd (upd (upd fmt 4 (vp_nar .byte ((Int32.toInt8 (p0 >>> (24 &&& 31))).toInt32))) 5 (vp_nar .byte ((Int32.toInt8 (p0 >>> (16 &&& 31))).toInt32))) 6 (vp_nar .byte ((Int32.toInt8 (p0 >>> (8 &&& 31))).toInt32))) 7 (vp_nar .byte ((Int32.toInt8 (p0 >>> (0 &&& 31))).toInt32)))))] := hD
  refine lv_aload_n hx hb dX11_four_20 rfl (lv_at hl 1 rfl) ?_
  refine lv_dup hx hb dX11_four_21 rfl ?_
  refine va_get (D := D) (ci := 11) (v := .int 7) (C := RX11) (T := TX11) (N := 65) hx hb hg inGX11 hown hK hP 0 rfl rfl 2 (by decide) (hg _ q_6_128) (fun _ h9 => h9) (px_ss (px_ss (px_ss hmo_2))) dX11_four_22 ?_
  refine lv_iconst (v := 1) hx hb dX11_four_25 (by decide) ?_
  refine lv_iadd hx hb dX11_four_26 ?_
  refine px_top (v := 8) (by decide) ?_
  refine va_put (D := D) (ci := 11) (v := .int 8) (ty := .int) (C := RX11) (T := TX11) (N := 65) hx hb hg inGX11 tyX11 tyX11_ok nmX11 hown hK hP hD hS 0 rfl rfl 2 (by decide) (hg _ q_6_128) (fun _ h9 => h9) rfl (by decide +kernel) rfl rfl (px_len (px_ss (px_ss (px_ss hmo_2)))) dX11_four_27 (fun H locs hP hD hS => ?_)
  have hP : va_P D vwCl [(mo, .inr (11, ((((fmo.set 2 (.int 5)).set 2 (.int 6)).set 2 (.int 7)).set 2 (.int 8)))), (mt, .inl (y 0, 940, .inl (upd (upd (upd (upd fmt 4 (vp_nar .byte ((Int32.toInt8 (p0 >>> (24 &&& 31))).toInt32))) 5 (vp_nar .byte ((Int32.toInt8 (p0 >>> (16 &&& 31))).toInt32))) 6 (vp_nar .byte ((Int32.toInt8 (p0 >>> (8 &&& 31))).toInt32))) 7 (vp_nar .byte ((Int32.toInt8 (p0 >>> (0 &&& 31))).toInt32)))))] H := hP
  have hD : va_D A [(mo, .inr (11, ((((fmo.set 2 (.int 5)).set 2 (.int 6)).set 2 (.int 7)).set 2 (.int 8)))), (mt, .inl (y 0, 940, .inl (upd (upd (upd (upd fmt 4 (vp_nar .byte ((Int32.toInt8 (p0 >>> (24 &&& 31))).toInt32))) 5 (vp_nar .byte ((Int32.toInt8 (p0 >>> (16 &&& 31))).toInt32))) 6 (vp_nar .byte ((Int32.toInt8 (p0 >>> (8 &&& 31))).toInt32))) 7 (vp_nar .byte ((Int32.toInt8 (p0 >>> (0 &&& 31))).toInt32)))))] := hD
  refine lv_iinc (v := (-8)) (lv' := [(2, .int (-8)), (0, .ref mo), (1, .int p0)]) hx hb dX11_four_30 hl (k := 0) rfl (by decide) (by decide) rfl (fun ls hl => ?_)
  refine lv_goto (tgt := 3) hx hb dX11_four_33 (by decide) ?_
  refine lv_iload_n hx hb dX11_four_3 rfl (lv_at hl 0 rfl) ?_
  refine lv_if_lt (tgt := 36) hx hb dX11_four_4 (by decide) (fun _ => ?_) (fun c_5 => absurd c_5 (by decide))
  have hP9 := hP.sub (ws' := [(mo, .inr (11, ((((fmo.set 2 (.int 5)).set 2 (.int 6)).set 2 (.int 7)).set 2 (.int 8)))), (mt, .inl (y 0, 940, .inl (upd (upd (upd (upd fmt 4 (vp_nar .byte ((Int32.toInt8 (p0 >>> (24 &&& 31))).toInt32))) 5 (vp_nar .byte ((Int32.toInt8 (p0 >>> (16 &&& 31))).toInt32))) 6 (vp_nar .byte ((Int32.toInt8 (p0 >>> (8 &&& 31))).toInt32))) 7 (vp_nar .byte ((Int32.toInt8 (p0 >>> (0 &&& 31))).toInt32)))))]) [0, 1] rfl
  have hD9 := hD.sub (ws' := [(mo, .inr (11, ((((fmo.set 2 (.int 5)).set 2 (.int 6)).set 2 (.int 7)).set 2 (.int 8)))), (mt, .inl (y 0, 940, .inl (upd (upd (upd (upd fmt 4 (vp_nar .byte ((Int32.toInt8 (p0 >>> (24 &&& 31))).toInt32))) 5 (vp_nar .byte ((Int32.toInt8 (p0 >>> (16 &&& 31))).toInt32))) 6 (vp_nar .byte ((Int32.toInt8 (p0 >>> (8 &&& 31))).toInt32))) 7 (vp_nar .byte ((Int32.toInt8 (p0 >>> (0 &&& 31))).toInt32)))))]) [0, 1] (by decide) rfl
  exact W.vret hx hb hr (fun t ht hW => ⟨⟨(px_v [], px_vi [(upd (upd (upd (upd fmt 4 (vp_nar .byte ((Int32.toInt8 (p0 >>> (24 &&& 31))).toInt32))) 5 (vp_nar .byte ((Int32.toInt8 (p0 >>> (16 &&& 31))).toInt32))) 6 (vp_nar .byte ((Int32.toInt8 (p0 >>> (8 &&& 31))).toInt32))) 7 (vp_nar .byte ((Int32.toInt8 (p0 >>> (0 &&& 31))).toInt32)))], px_vl []), rfl, trivial, by rw [ht]; exact hP9, by subst hAe; exact hD9⟩, by subst hAe; exact hS.F ht⟩) (fun q h => by subst hAe; exact hS.2.2 q h) dX11_four_36

set_option maxHeartbeats 4000000 in
set_option maxRecDepth 100000 in
theorem c_X11_four_8 (l : Launch) (D : va_G) (y : Nat → ClassId) (sz : Nat) (mo : Nat) (fmo : List Value) (mt : Nat) (fmt : Nat → Int32) (p0 : Int32) (hmo_1 : fmo[1]? = some (.ref mt)) (hmo_2 : fmo[2]? = some (.int 8)) : Met l yX11_four (px_w yX11_four cX11_four 3 none) ({ frames := 0, cells := 0, slots := 0, locals := 0 }) (va_Pc [.ref mo, .int p0] (px_P D y sz [(mo, .inr (11, fmo)), (mt, .inl (y 0, 940, .inl fmt))])) (va_Qv (fun (u : px_U) => True) (fun (u : px_U) t => va_P D vwCl [(mo, .inr (11, ((((fmo.set 2 (.int 9)).set 2 (.int 10)).set 2 (.int 11)).set 2 (.int 12)))), (mt, .inl (y 0, 940, .inl (u.2.1 0)))] t.heap ∧ va_D (va_A [(mo, .inr (11, fmo)), (mt, .inl (y 0, 940, .inl fmt))] sz) [(mo, .inr (11, ((((fmo.set 2 (.int 9)).set 2 (.int 10)).set 2 (.int 11)).set 2 (.int 12)))), (mt, .inl (y 0, 940, .inl (u.2.1 0)))]) (va_A [(mo, .inr (11, fmo)), (mt, .inl (y 0, 940, .inl fmt))] sz)) 0 0 (va_A [(mo, .inr (11, fmo)), (mt, .inl (y 0, 940, .inl fmt))] sz) := by
  refine Met.ofW (cc := cX11_four) (maxL := 3) (ret := none) (by decide) rfl ?_
  intro p e s m args below meth c s₁ B hml hv
  obtain ⟨rfl, hsz, hP, hK, hD0⟩ := hv
  have hx := B.exec
  have hb := B.bytes
  have hr := B.returns
  have hts := atoms_spec (ws := px_w yX11_four cX11_four 3 none) B.pre
  have hg : ∀ w ∈ gw, w.before [.ref mo, .int p0].toArray s = true := fun w h => hts w (List.mem_cons_of_mem _ h)
  have hown : s.vm.findClass RX11 = some m.cls := findClass_of_methodNamed B.named
  have hlocks := B.notSynchronized
  subst hsz
  have hD := hD0.self (sz := s.heap.size)
  generalize hAe : va_A [(mo, .inr (11, fmo)), (mt, .inl (y 0, 940, .inl fmt))] s.heap.size = A at hD ⊢
  have hA : ∀ q : Nat, s.heap.size ≤ q → A q := fun q h => by rw [← hAe]; exact Or.inr h
  have hS : va_S A s.heap s.heap [] := va_S.rf
  have hP : va_P D vwCl [(mo, .inr (11, fmo)), (mt, .inl (y 0, 940, .inl fmt))] s.heap := hP
  have hl := lv_entry ([.ref mo, .int p0]) (n := 3) (Nat.le_of_ble_eq_true rfl)
  rw [lg_entry_eq]
  generalize (lg_sl ([.ref mo, .int p0]) ++ List.replicate (3 - (lg_sl ([.ref mo, .int p0])).length) Slot.unset).toArray = ls at hl ⊢
  have hl : lv_has ls 3 [(0, .ref mo), (1, .int p0)] := hl
  refine lv_bipush (v := 24) hx hb dX11_four_0 (by decide) ?_
  refine lv_istore_n (lv' := [(2, .int 24), (0, .ref mo), (1, .int p0)]) hx hb dX11_four_2 rfl hl (by decide) rfl (fun ls hl => ?_)
  refine lv_iload_n hx hb dX11_four_3 rfl (lv_at hl 0 rfl) ?_
  refine lv_if_lt (tgt := 36) hx hb dX11_four_4 (by decide) (fun c_1 => absurd c_1 (by decide)) (fun _ => ?_)
  refine lv_aload_n hx hb dX11_four_7 rfl (lv_at hl 1 rfl) ?_
  refine va_get (D := D) (ci := 11) (v := .ref mt) (C := RX11) (T := TX11) (N := 65) hx hb hg inGX11 hown hK hP 0 rfl rfl 1 (by decide) (hg _ q_6_127) (fun _ h9 => h9) hmo_1 dX11_four_8 ?_
  refine lv_aload_n hx hb dX11_four_11 rfl (lv_at hl 1 rfl) ?_
  refine va_get (D := D) (ci := 11) (v := .int 8) (C := RX11) (T := TX11) (N := 65) hx hb hg inGX11 hown hK hP 0 rfl rfl 2 (by decide) (hg _ q_6_128) (fun _ h9 => h9) hmo_2 dX11_four_12 ?_
  refine lv_iload_n hx hb dX11_four_15 rfl (lv_at hl 2 rfl) ?_
  refine lv_iload_n hx hb dX11_four_16 rfl (lv_at hl 0 rfl) ?_
  refine lv_ishr hx hb dX11_four_17 ?_
  refine lv_i2b hx hb dX11_four_18 rfl ?_
  refine va_bast hx hb hK hP hD hS 1 0 rfl rfl (i := 8) (px_in (by decide)) dX11_four_19 (fun H locs hP hD hS => ?_)
  have hP : va_P D vwCl [(mo, .inr (11, fmo)), (mt, .inl (y 0, 940, .inl (upd fmt 8 (vp_nar .byte ((Int32.toInt8 (p0 >>> (24 &&& 31))).toInt32)))))] H := hP
  have hD : va_D A [(mo, .inr (11, fmo)), (mt, .inl (y 0, 940, .inl (upd fmt 8 (vp_nar .byte ((Int32.toInt8 (p0 >>> (24 &&& 31))).toInt32)))))] := hD
  refine lv_aload_n hx hb dX11_four_20 rfl (lv_at hl 1 rfl) ?_
  refine lv_dup hx hb dX11_four_21 rfl ?_
  refine va_get (D := D) (ci := 11) (v := .int 8) (C := RX11) (T := TX11) (N := 65) hx hb hg inGX11 hown hK hP 0 rfl rfl 2 (by decide) (hg _ q_6_128) (fun _ h9 => h9) hmo_2 dX11_four_22 ?_
  refine lv_iconst (v := 1) hx hb dX11_four_25 (by decide) ?_
  refine lv_iadd hx hb dX11_four_26 ?_
  refine px_top (v := 9) (by decide) ?_
  refine va_put (D := D) (ci := 11) (v := .int 9) (ty := .int) (C := RX11) (T := TX11) (N := 65) hx hb hg inGX11 tyX11 tyX11_ok nmX11 hown hK hP hD hS 0 rfl rfl 2 (by decide) (hg _ q_6_128) (fun _ h9 => h9) rfl (by decide +kernel) rfl rfl (px_len hmo_2) dX11_four_27 (fun H locs hP hD hS => ?_)
  have hP : va_P D vwCl [(mo, .inr (11, (fmo.set 2 (.int 9)))), (mt, .inl (y 0, 940, .inl (upd fmt 8 (vp_nar .byte ((Int32.toInt8 (p0 >>> (24 &&& 31))).toInt32)))))] H := hP
  have hD : va_D A [(mo, .inr (11, (fmo.set 2 (.int 9)))), (mt, .inl (y 0, 940, .inl (upd fmt 8 (vp_nar .byte ((Int32.toInt8 (p0 >>> (24 &&& 31))).toInt32)))))] := hD
  refine lv_iinc (v := 16) (lv' := [(2, .int 16), (0, .ref mo), (1, .int p0)]) hx hb dX11_four_30 hl (k := 0) rfl (by decide) (by decide) rfl (fun ls hl => ?_)
  refine lv_goto (tgt := 3) hx hb dX11_four_33 (by decide) ?_
  refine lv_iload_n hx hb dX11_four_3 rfl (lv_at hl 0 rfl) ?_
  refine lv_if_lt (tgt := 36) hx hb dX11_four_4 (by decide) (fun c_2 => absurd c_2 (by decide)) (fun _ => ?_)
  refine lv_aload_n hx hb dX11_four_7 rfl (lv_at hl 1 rfl) ?_
  refine va_get (D := D) (ci := 11) (v := .ref mt) (C := RX11) (T := TX11) (N := 65) hx hb hg inGX11 hown hK hP 0 rfl rfl 1 (by decide) (hg _ q_6_127) (fun _ h9 => h9) (px_sn (by decide) hmo_1) dX11_four_8 ?_
  refine lv_aload_n hx hb dX11_four_11 rfl (lv_at hl 1 rfl) ?_
  refine va_get (D := D) (ci := 11) (v := .int 9) (C := RX11) (T := TX11) (N := 65) hx hb hg inGX11 hown hK hP 0 rfl rfl 2 (by decide) (hg _ q_6_128) (fun _ h9 => h9) (px_ss hmo_2) dX11_four_12 ?_
  refine lv_iload_n hx hb dX11_four_15 rfl (lv_at hl 2 rfl) ?_
  refine lv_iload_n hx hb dX11_four_16 rfl (lv_at hl 0 rfl) ?_
  refine lv_ishr hx hb dX11_four_17 ?_
  refine lv_i2b hx hb dX11_four_18 rfl ?_
  refine va_bast hx hb hK hP hD hS 1 0 rfl rfl (i := 9) (px_in (by decide)) dX11_four_19 (fun H locs hP hD hS => ?_)
  have hP : va_P D vwCl [(mo, .inr (11, (fmo.set 2 (.int 9)))), (mt, .inl (y 0, 940, .inl (upd (upd fmt 8 (vp_nar .byte ((Int32.toInt8 (p0 >>> (24 &&& 31))).toInt32))) 9 (vp_nar .byte ((Int32.toInt8 (p0 >>> (16 &&& 31))).toInt32)))))] H := hP
  have hD : va_D A [(mo, .inr (11, (fmo.set 2 (.int 9)))), (mt, .inl (y 0, 940, .inl (upd (upd fmt 8 (vp_nar .byte ((Int32.toInt8 (p0 >>> (24 &&& 31))).toInt32))) 9 (vp_nar .byte ((Int32.toInt8 (p0 >>> (16 &&& 31))).toInt32)))))] := hD
  refine lv_aload_n hx hb dX11_four_20 rfl (lv_at hl 1 rfl) ?_
  refine lv_dup hx hb dX11_four_21 rfl ?_
  refine va_get (D := D) (ci := 11) (v := .int 9) (C := RX11) (T := TX11) (N := 65) hx hb hg inGX11 hown hK hP 0 rfl rfl 2 (by decide) (hg _ q_6_128) (fun _ h9 => h9) (px_ss hmo_2) dX11_four_22 ?_
  refine lv_iconst (v := 1) hx hb dX11_four_25 (by decide) ?_
  refine lv_iadd hx hb dX11_four_26 ?_
  refine px_top (v := 10) (by decide) ?_
  refine va_put (D := D) (ci := 11) (v := .int 10) (ty := .int) (C := RX11) (T := TX11) (N := 65) hx hb hg inGX11 tyX11 tyX11_ok nmX11 hown hK hP hD hS 0 rfl rfl 2 (by decide) (hg _ q_6_128) (fun _ h9 => h9) rfl (by decide +kernel) rfl rfl (px_len (px_ss hmo_2)) dX11_four_27 (fun H locs hP hD hS => ?_)
  have hP : va_P D vwCl [(mo, .inr (11, ((fmo.set 2 (.int 9)).set 2 (.int 10)))), (mt, .inl (y 0, 940, .inl (upd (upd fmt 8 (vp_nar .byte ((Int32.toInt8 (p0 >>> (24 &&& 31))).toInt32))) 9 (vp_nar .byte ((Int32.toInt8 (p0 >>> (16 &&& 31))).toInt32)))))] H := hP
  have hD : va_D A [(mo, .inr (11, ((fmo.set 2 (.int 9)).set 2 (.int 10)))), (mt, .inl (y 0, 940, .inl (upd (upd fmt 8 (vp_nar .byte ((Int32.toInt8 (p0 >>> (24 &&& 31))).toInt32))) 9 (vp_nar .byte ((Int32.toInt8 (p0 >>> (16 &&& 31))).toInt32)))))] := hD
  refine lv_iinc (v := 8) (lv' := [(2, .int 8), (0, .ref mo), (1, .int p0)]) hx hb dX11_four_30 hl (k := 0) rfl (by decide) (by decide) rfl (fun ls hl => ?_)
  refine lv_goto (tgt := 3) hx hb dX11_four_33 (by decide) ?_
  refine lv_iload_n hx hb dX11_four_3 rfl (lv_at hl 0 rfl) ?_
  refine lv_if_lt (tgt := 36) hx hb dX11_four_4 (by decide) (fun c_3 => absurd c_3 (by decide)) (fun _ => ?_)
  refine lv_aload_n hx hb dX11_four_7 rfl (lv_at hl 1 rfl) ?_
  refine va_get (D := D) (ci := 11) (v := .ref mt) (C := RX11) (T := TX11) (N := 65) hx hb hg inGX11 hown hK hP 0 rfl rfl 1 (by decide) (hg _ q_6_127) (fun _ h9 => h9) (px_sn (by decide) (px_sn (by decide) hmo_1)) dX11_four_8 ?_
  refine lv_aload_n hx hb dX11_four_11 rfl (lv_at hl 1 rfl) ?_
  refine va_get (D := D) (ci := 11) (v := .int 10) (C := RX11) (T := TX11) (N := 65) hx hb hg inGX11 hown hK hP 0 rfl rfl 2 (by decide) (hg _ q_6_128) (fun _ h9 => h9) (px_ss (px_ss hmo_2)) dX11_four_12 ?_
  refine lv_iload_n hx hb dX11_four_15 rfl (lv_at hl 2 rfl) ?_
  refine lv_iload_n hx hb dX11_four_16 rfl (lv_at hl 0 rfl) ?_
  refine lv_ishr hx hb dX11_four_17 ?_
  refine lv_i2b hx hb dX11_four_18 rfl ?_
  refine va_bast hx hb hK hP hD hS 1 0 rfl rfl (i := 10) (px_in (by decide)) dX11_four_19 (fun H locs hP hD hS => ?_)
  have hP : va_P D vwCl [(mo, .inr (11, ((fmo.set 2 (.int 9)).set 2 (.int 10)))), (mt, .inl (y 0, 940, .inl (upd (upd (upd fmt 8 (vp_nar .byte ((Int32.toInt8 (p0 >>> (24 &&& 31))).toInt32))) 9 (vp_nar .byte ((Int32.toInt8 (p0 >>> (16 &&& 31))).toInt32))) 10 (vp_nar .byte ((Int32.toInt8 (p0 >>> (8 &&& 31))).toInt32)))))] H := hP
  have hD : va_D A [(mo, .inr (11, ((fmo.set 2 (.int 9)).set 2 (.int 10)))), (mt, .inl (y 0, 940, .inl (upd (upd (upd fmt 8 (vp_nar .byte ((Int32.toInt8 (p0 >>> (24 &&& 31))).toInt32))) 9 (vp_nar .byte ((Int32.toInt8 (p0 >>> (16 &&& 31))).toInt32))) 10 (vp_nar .byte ((Int32.toInt8 (p0 >>> (8 &&& 31))).toInt32)))))] := hD
  refine lv_aload_n hx hb dX11_four_20 rfl (lv_at hl 1 rfl) ?_
  refine lv_dup hx hb dX11_four_21 rfl ?_
  refine va_get (D := D) (ci := 11) (v := .int 10) (C := RX11) (T := TX11) (N := 65) hx hb hg inGX11 hown hK hP 0 rfl rfl 2 (by decide) (hg _ q_6_128) (fun _ h9 => h9) (px_ss (px_ss hmo_2)) dX11_four_22 ?_
  refine lv_iconst (v := 1) hx hb dX11_four_25 (by decide) ?_
  refine lv_iadd hx hb dX11_four_26 ?_
  refine px_top (v := 11) (by decide) ?_
  refine va_put (D := D) (ci := 11) (v := .int 11) (ty := .int) (C := RX11) (T := TX11) (N := 65) hx hb hg inGX11 tyX11 tyX11_ok nmX11 hown hK hP hD hS 0 rfl rfl 2 (by decide) (hg _ q_6_128) (fun _ h9 => h9) rfl (by decide +kernel) rfl rfl (px_len (px_ss (px_ss hmo_2))) dX11_four_27 (fun H locs hP hD hS => ?_)
  have hP : va_P D vwCl [(mo, .inr (11, (((fmo.set 2 (.int 9)).set 2 (.int 10)).set 2 (.int 11)))), (mt, .inl (y 0, 940, .inl (upd (upd (upd fmt 8 (vp_nar .byte ((Int32.toInt8 (p0 >>> (24 &&& 31))).toInt32))) 9 (vp_nar .byte ((Int32.toInt8 (p0 >>> (16 &&& 31))).toInt32))) 10 (vp_nar .byte ((Int32.toInt8 (p0 >>> (8 &&& 31))).toInt32)))))] H := hP
  have hD : va_D A [(mo, .inr (11, (((fmo.set 2 (.int 9)).set 2 (.int 10)).set 2 (.int 11)))), (mt, .inl (y 0, 940, .inl (upd (upd (upd fmt 8 (vp_nar .byte ((Int32.toInt8 (p0 >>> (24 &&& 31))).toInt32))) 9 (vp_nar .byte ((Int32.toInt8 (p0 >>> (16 &&& 31))).toInt32))) 10 (vp_nar .byte ((Int32.toInt8 (p0 >>> (8 &&& 31))).toInt32)))))] := hD
  refine lv_iinc (v := 0) (lv' := [(2, .int 0), (0, .ref mo), (1, .int p0)]) hx hb dX11_four_30 hl (k := 0) rfl (by decide) (by decide) rfl (fun ls hl => ?_)
  refine lv_goto (tgt := 3) hx hb dX11_four_33 (by decide) ?_
  refine lv_iload_n hx hb dX11_four_3 rfl (lv_at hl 0 rfl) ?_
  refine lv_if_lt (tgt := 36) hx hb dX11_four_4 (by decide) (fun c_4 => absurd c_4 (by decide)) (fun _ => ?_)
  refine lv_aload_n hx hb dX11_four_7 rfl (lv_at hl 1 rfl) ?_
  refine va_get (D := D) (ci := 11) (v := .ref mt) (C := RX11) (T := TX11) (N := 65) hx hb hg inGX11 hown hK hP 0 rfl rfl 1 (by decide) (hg _ q_6_127) (fun _ h9 => h9) (px_sn (by decide) (px_sn (by decide) (px_sn (by decide) hmo_1))) dX11_four_8 ?_
  refine lv_aload_n hx hb dX11_four_11 rfl (lv_at hl 1 rfl) ?_
  refine va_get (D := D) (ci := 11) (v := .int 11) (C := RX11) (T := TX11) (N := 65) hx hb hg inGX11 hown hK hP 0 rfl rfl 2 (by decide) (hg _ q_6_128) (fun _ h9 => h9) (px_ss (px_ss (px_ss hmo_2))) dX11_four_12 ?_
  refine lv_iload_n hx hb dX11_four_15 rfl (lv_at hl 2 rfl) ?_
  refine lv_iload_n hx hb dX11_four_16 rfl (lv_at hl 0 rfl) ?_
  refine lv_ishr hx hb dX11_four_17 ?_
  refine lv_i2b hx hb dX11_four_18 rfl ?_
  refine va_bast hx hb hK hP hD hS 1 0 rfl rfl (i := 11) (px_in (by decide)) dX11_four_19 (fun H locs hP hD hS => ?_)
  have hP : va_P D vwCl [(mo, .inr (11, (((fmo.set 2 (.int 9)).set 2 (.int 10)).set 2 (.int 11)))), (mt, .inl (y 0, 940, .inl (upd (upd (upd (upd fmt 8 (vp_nar .byte ((Int32.toInt8 (p0 >>> (24 &&& 31))).toInt32))) 9 (vp_nar .byte ((Int32.toInt8 (p0 >>> (16 &&& 31))).toInt32))) 10 (vp_nar .byte ((Int32.toInt8 (p0 >>> (8 &&& 31))).toInt32))) 11 (vp_nar .byte ((Int32.toInt8 (p0 >>> (0 &&& 31))).toInt32)))))] H := hP
  have hD : va_D A [(mo, .inr (11, (((fmo.set 2 (.int 9)).set 2 (.int 10)).set 2 (.int 11)))), (mt, .inl (y 0, 940, .inl (upd (upd (upd (upd fmt 8 (vp_nar .byte ((Int32.toInt8 (p0 >>> (24 &&& 31))).toInt32))) 9 (vp_nar .byte ((Int32.toInt8 (p0 >>> (16 &&& 31))).toInt32))) 10 (vp_nar .byte ((Int32.toInt8 (p0 >>> (8 &&& 31))).toInt32))) 11 (vp_nar .byte ((Int32.toInt8 (p0 >>> (0 &&& 31))).toInt32)))))] := hD
  refine lv_aload_n hx hb dX11_four_20 rfl (lv_at hl 1 rfl) ?_
  refine lv_dup hx hb dX11_four_21 rfl ?_
  refine va_get (D := D) (ci := 11) (v := .int 11) (C := RX11) (T := TX11) (N := 65) hx hb hg inGX11 hown hK hP 0 rfl rfl 2 (by decide) (hg _ q_6_128) (fun _ h9 => h9) (px_ss (px_ss (px_ss hmo_2))) dX11_four_22 ?_
  refine lv_iconst (v := 1) hx hb dX11_four_25 (by decide) ?_
  refine lv_iadd hx hb dX11_four_26 ?_
  refine px_top (v := 12) (by decide) ?_
  refine va_put (D := D) (ci := 11) (v := .int 12) (ty := .int) (C := RX11) (T := TX11) (N := 65) hx hb hg inGX11 tyX11 tyX11_ok nmX11 hown hK hP hD hS 0 rfl rfl 2 (by decide) (hg _ q_6_128) (fun _ h9 => h9) rfl (by decide +kernel) rfl rfl (px_len (px_ss (px_ss (px_ss hmo_2)))) dX11_four_27 (fun H locs hP hD hS => ?_)
  have hP : va_P D vwCl [(mo, .inr (11, ((((fmo.set 2 (.int 9)).set 2 (.int 10)).set 2 (.int 11)).set 2 (.int 12)))), (mt, .inl (y 0, 940, .inl (upd (upd (upd (upd fmt 8 (vp_nar .byte ((Int32.toInt8 (p0 >>> (24 &&& 31))).toInt32))) 9 (vp_nar .byte ((Int32.toInt8 (p0 >>> (16 &&& 31))).toInt32))) 10 (vp_nar .byte ((Int32.toInt8 (p0 >>> (8 &&& 31))).toInt32))) 11 (vp_nar .byte ((Int32.toInt8 (p0 >>> (0 &&& 31))).toInt32)))))] H := hP
  have hD : va_D A [(mo, .inr (11, ((((fmo.set 2 (.int 9)).set 2 (.int 10)).set 2 (.int 11)).set 2 (.int 12)))), (mt, .inl (y 0, 940, .inl (upd (upd (upd (upd fmt 8 (vp_nar .byte ((Int32.toInt8 (p0 >>> (24 &&& 31))).toInt32))) 9 (vp_nar .byte ((Int32.toInt8 (p0 >>> (16 &&& 31))).toInt32))) 10 (vp_nar .byte ((Int32.toInt8 (p0 >>> (8 &&& 31))).toInt32))) 11 (vp_nar .byte ((Int32.toInt8 (p0 >>> (0 &&& 31))).toInt32)))))] := hD
  refine lv_iinc (v := (-8)) (lv' := [(2, .int (-8)), (0, .ref mo), (1, .int p0)]) hx hb dX11_four_30 hl (k := 0) rfl (by decide) (by decide) rfl (fun ls hl => ?_)
  refine lv_goto (tgt := 3) hx hb dX11_four_33 (by decide) ?_
  refine lv_iload_n hx hb dX11_four_3 rfl (lv_at hl 0 rfl) ?_
  refine lv_if_lt (tgt := 36) hx hb dX11_four_4 (by decide) (fun _ => ?_) (fun c_5 => absurd c_5 (by decide))
  have hP9 := hP.sub (ws' := [(mo, .inr (11, ((((fmo.set 2 (.int 9)).set 2 (.int 10)).set 2 (.int 11)).set 2 (.int 12)))), (mt, .inl (y 0, 940, .inl (upd (upd (upd (upd fmt 8 (vp_nar .byte ((Int32.toInt8 (p0 >>> (24 &&& 31))).toInt32))) 9 (vp_nar .byte ((Int32.toInt8 (p0 >>> (16 &&& 31))).toInt32))) 10 (vp_nar .byte ((Int32.toInt8 (p0 >>> (8 &&& 31))).toInt32))) 11 (vp_nar .byte ((Int32.toInt8 (p0 >>> (0 &&& 31))).toInt32)))))]) [0, 1] rfl
  have hD9 := hD.sub (ws' := [(mo, .inr (11, ((((fmo.set 2 (.int 9)).set 2 (.int 10)).set 2 (.int 11)).set 2 (.int 12)))), (mt, .inl (y 0, 940, .inl (upd (upd (upd (upd fmt 8 (vp_nar .byte ((Int32.toInt8 (p0 >>> (24 &&& 31))).toInt32))) 9 (vp_nar .byte ((Int32.toInt8 (p0 >>> (16 &&& 31))).toInt32))) 10 (vp_nar .byte ((Int32.toInt8 (p0 >>> (8 &&& 31))).toInt32))) 11 (vp_nar .byte ((Int32.toInt8 (p0 >>> (0 &&& 31))).toInt32)))))]) [0, 1] (by decide) rfl
  exact W.vret hx hb hr (fun t ht hW => ⟨⟨(px_v [], px_vi [(upd (upd (upd (upd fmt 8 (vp_nar .byte ((Int32.toInt8 (p0 >>> (24 &&& 31))).toInt32))) 9 (vp_nar .byte ((Int32.toInt8 (p0 >>> (16 &&& 31))).toInt32))) 10 (vp_nar .byte ((Int32.toInt8 (p0 >>> (8 &&& 31))).toInt32))) 11 (vp_nar .byte ((Int32.toInt8 (p0 >>> (0 &&& 31))).toInt32)))], px_vl []), rfl, trivial, by rw [ht]; exact hP9, by subst hAe; exact hD9⟩, by subst hAe; exact hS.F ht⟩) (fun q h => by subst hAe; exact hS.2.2 q h) dX11_four_36

set_option maxHeartbeats 4000000 in
set_option maxRecDepth 100000 in
theorem c_X11_four_12 (l : Launch) (D : va_G) (y : Nat → ClassId) (sz : Nat) (mo : Nat) (fmo : List Value) (mt : Nat) (fmt : Nat → Int32) (p0 : Int32) (hmo_1 : fmo[1]? = some (.ref mt)) (hmo_2 : fmo[2]? = some (.int 12)) : Met l yX11_four (px_w yX11_four cX11_four 3 none) ({ frames := 0, cells := 0, slots := 0, locals := 0 }) (va_Pc [.ref mo, .int p0] (px_P D y sz [(mo, .inr (11, fmo)), (mt, .inl (y 0, 940, .inl fmt))])) (va_Qv (fun (u : px_U) => True) (fun (u : px_U) t => va_P D vwCl [(mo, .inr (11, ((((fmo.set 2 (.int 13)).set 2 (.int 14)).set 2 (.int 15)).set 2 (.int 16)))), (mt, .inl (y 0, 940, .inl (u.2.1 0)))] t.heap ∧ va_D (va_A [(mo, .inr (11, fmo)), (mt, .inl (y 0, 940, .inl fmt))] sz) [(mo, .inr (11, ((((fmo.set 2 (.int 13)).set 2 (.int 14)).set 2 (.int 15)).set 2 (.int 16)))), (mt, .inl (y 0, 940, .inl (u.2.1 0)))]) (va_A [(mo, .inr (11, fmo)), (mt, .inl (y 0, 940, .inl fmt))] sz)) 0 0 (va_A [(mo, .inr (11, fmo)), (mt, .inl (y 0, 940, .inl fmt))] sz) := by
  refine Met.ofW (cc := cX11_four) (maxL := 3) (ret := none) (by decide) rfl ?_
  intro p e s m args below meth c s₁ B hml hv
  obtain ⟨rfl, hsz, hP, hK, hD0⟩ := hv
  have hx := B.exec
  have hb := B.bytes
  have hr := B.returns
  have hts := atoms_spec (ws := px_w yX11_four cX11_four 3 none) B.pre
  have hg : ∀ w ∈ gw, w.before [.ref mo, .int p0].toArray s = true := fun w h => hts w (List.mem_cons_of_mem _ h)
  have hown : s.vm.findClass RX11 = some m.cls := findClass_of_methodNamed B.named
  have hlocks := B.notSynchronized
  subst hsz
  have hD := hD0.self (sz := s.heap.size)
  generalize hAe : va_A [(mo, .inr (11, fmo)), (mt, .inl (y 0, 940, .inl fmt))] s.heap.size = A at hD ⊢
  have hA : ∀ q : Nat, s.heap.size ≤ q → A q := fun q h => by rw [← hAe]; exact Or.inr h
  have hS : va_S A s.heap s.heap [] := va_S.rf
  have hP : va_P D vwCl [(mo, .inr (11, fmo)), (mt, .inl (y 0, 940, .inl fmt))] s.heap := hP
  have hl := lv_entry ([.ref mo, .int p0]) (n := 3) (Nat.le_of_ble_eq_true rfl)
  rw [lg_entry_eq]
  generalize (lg_sl ([.ref mo, .int p0]) ++ List.replicate (3 - (lg_sl ([.ref mo, .int p0])).length) Slot.unset).toArray = ls at hl ⊢
  have hl : lv_has ls 3 [(0, .ref mo), (1, .int p0)] := hl
  refine lv_bipush (v := 24) hx hb dX11_four_0 (by decide) ?_
  refine lv_istore_n (lv' := [(2, .int 24), (0, .ref mo), (1, .int p0)]) hx hb dX11_four_2 rfl hl (by decide) rfl (fun ls hl => ?_)
  refine lv_iload_n hx hb dX11_four_3 rfl (lv_at hl 0 rfl) ?_
  refine lv_if_lt (tgt := 36) hx hb dX11_four_4 (by decide) (fun c_1 => absurd c_1 (by decide)) (fun _ => ?_)
  refine lv_aload_n hx hb dX11_four_7 rfl (lv_at hl 1 rfl) ?_
  refine va_get (D := D) (ci := 11) (v := .ref mt) (C := RX11) (T := TX11) (N := 65) hx hb hg inGX11 hown hK hP 0 rfl rfl 1 (by decide) (hg _ q_6_127) (fun _ h9 => h9) hmo_1 dX11_four_8 ?_
  refine lv_aload_n hx hb dX11_four_11 rfl (lv_at hl 1 rfl) ?_
  refine va_get (D := D) (ci := 11) (v := .int 12) (C := RX11) (T := TX11) (N := 65) hx hb hg inGX11 hown hK hP 0 rfl rfl 2 (by decide) (hg _ q_6_128) (fun _ h9 => h9) hmo_2 dX11_four_12 ?_
  refine lv_iload_n hx hb dX11_four_15 rfl (lv_at hl 2 rfl) ?_
  refine lv_iload_n hx hb dX11_four_16 rfl (lv_at hl 0 rfl) ?_
  refine lv_ishr hx hb dX11_four_17 ?_
  refine lv_i2b hx hb dX11_four_18 rfl ?_
  refine va_bast hx hb hK hP hD hS 1 0 rfl rfl (i := 12) (px_in (by decide)) dX11_four_19 (fun H locs hP hD hS => ?_)
  have hP : va_P D vwCl [(mo, .inr (11, fmo)), (mt, .inl (y 0, 940, .inl (upd fmt 12 (vp_nar .byte ((Int32.toInt8 (p0 >>> (24 &&& 31))).toInt32)))))] H := hP
  have hD : va_D A [(mo, .inr (11, fmo)), (mt, .inl (y 0, 940, .inl (upd fmt 12 (vp_nar .byte ((Int32.toInt8 (p0 >>> (24 &&& 31))).toInt32)))))] := hD
  refine lv_aload_n hx hb dX11_four_20 rfl (lv_at hl 1 rfl) ?_
  refine lv_dup hx hb dX11_four_21 rfl ?_
  refine va_get (D := D) (ci := 11) (v := .int 12) (C := RX11) (T := TX11) (N := 65) hx hb hg inGX11 hown hK hP 0 rfl rfl 2 (by decide) (hg _ q_6_128) (fun _ h9 => h9) hmo_2 dX11_four_22 ?_
  refine lv_iconst (v := 1) hx hb dX11_four_25 (by decide) ?_
  refine lv_iadd hx hb dX11_four_26 ?_
  refine px_top (v := 13) (by decide) ?_
  refine va_put (D := D) (ci := 11) (v := .int 13) (ty := .int) (C := RX11) (T := TX11) (N := 65) hx hb hg inGX11 tyX11 tyX11_ok nmX11 hown hK hP hD hS 0 rfl rfl 2 (by decide) (hg _ q_6_128) (fun _ h9 => h9) rfl (by decide +kernel) rfl rfl (px_len hmo_2) dX11_four_27 (fun H locs hP hD hS => ?_)
  have hP : va_P D vwCl [(mo, .inr (11, (fmo.set 2 (.int 13)))), (mt, .inl (y 0, 940, .inl (upd fmt 12 (vp_nar .byte ((Int32.toInt8 (p0 >>> (24 &&& 31))).toInt32)))))] H := hP
  have hD : va_D A [(mo, .inr (11, (fmo.set 2 (.int 13)))), (mt, .inl (y 0, 940, .inl (upd fmt 12 (vp_nar .byte ((Int32.toInt8 (p0 >>> (24 &&& 31))).toInt32)))))] := hD
  refine lv_iinc (v := 16) (lv' := [(2, .int 16), (0, .ref mo), (1, .int p0)]) hx hb dX11_four_30 hl (k := 0) rfl (by decide) (by decide) rfl (fun ls hl => ?_)
  refine lv_goto (tgt := 3) hx hb dX11_four_33 (by decide) ?_
  refine lv_iload_n hx hb dX11_four_3 rfl (lv_at hl 0 rfl) ?_
  refine lv_if_lt (tgt := 36) hx hb dX11_four_4 (by decide) (fun c_2 => absurd c_2 (by decide)) (fun _ => ?_)
  refine lv_aload_n hx hb dX11_four_7 rfl (lv_at hl 1 rfl) ?_
  refine va_get (D := D) (ci := 11) (v := .ref mt) (C := RX11) (T := TX11) (N := 65) hx hb hg inGX11 hown hK hP 0 rfl rfl 1 (by decide) (hg _ q_6_127) (fun _ h9 => h9) (px_sn (by decide) hmo_1) dX11_four_8 ?_
  refine lv_aload_n hx hb dX11_four_11 rfl (lv_at hl 1 rfl) ?_
  refine va_get (D := D) (ci := 11) (v := .int 13) (C := RX11) (T := TX11) (N := 65) hx hb hg inGX11 hown hK hP 0 rfl rfl 2 (by decide) (hg _ q_6_128) (fun _ h9 => h9) (px_ss hmo_2) dX11_four_12 ?_
  refine lv_iload_n hx hb dX11_four_15 rfl (lv_at hl 2 rfl) ?_
  refine lv_iload_n hx hb dX11_four_16 rfl (lv_at hl 0 rfl) ?_
  refine lv_ishr hx hb dX11_four_17 ?_
  refine lv_i2b hx hb dX11_four_18 rfl ?_
  refine va_bast hx hb hK hP hD hS 1 0 rfl rfl (i := 13) (px_in (by decide)) dX11_four_19 (fun H locs hP hD hS => ?_)
  have hP : va_P D vwCl [(mo, .inr (11, (fmo.set 2 (.int 13)))), (mt, .inl (y 0, 940, .inl (upd (upd fmt 12 (vp_nar .byte ((Int32.toInt8 (p0 >>> (24 &&& 31))).toInt32))) 13 (vp_nar .byte ((Int32.toInt8 (p0 >>> (16 &&& 31))).toInt32)))))] H := hP
  have hD : va_D A [(mo, .inr (11, (fmo.set 2 (.int 13)))), (mt, .inl (y 0, 940, .inl (upd (upd fmt 12 (vp_nar .byte ((Int32.toInt8 (p0 >>> (24 &&& 31))).toInt32))) 13 (vp_nar .byte ((Int32.toInt8 (p0 >>> (16 &&& 31))).toInt32)))))] := hD
  refine lv_aload_n hx hb dX11_four_20 rfl (lv_at hl 1 rfl) ?_
  refine lv_dup hx hb dX11_four_21 rfl ?_
  refine va_get (D := D) (ci := 11) (v := .int 13) (C := RX11) (T := TX11) (N := 65) hx hb hg inGX11 hown hK hP 0 rfl rfl 2 (by decide) (hg _ q_6_128) (fun _ h9 => h9) (px_ss hmo_2) dX11_four_22 ?_
  refine lv_iconst (v := 1) hx hb dX11_four_25 (by decide) ?_
  refine lv_iadd hx hb dX11_four_26 ?_
  refine px_top (v := 14) (by decide) ?_
  refine va_put (D := D) (ci := 11) (v := .int 14) (ty := .int) (C := RX11) (T := TX11) (N := 65) hx hb hg inGX11 tyX11 tyX11_ok nmX11 hown hK hP hD hS 0 rfl rfl 2 (by decide) (hg _ q_6_128) (fun _ h9 => h9) rfl (by decide +kernel) rfl rfl (px_len (px_ss hmo_2)) dX11_four_27 (fun H locs hP hD hS => ?_)
  have hP : va_P D vwCl [(mo, .inr (11, ((fmo.set 2 (.int 13)).set 2 (.int 14)))), (mt, .inl (y 0, 940, .inl (upd (upd fmt 12 (vp_nar .byte ((Int32.toInt8 (p0 >>> (24 &&& 31))).toInt32))) 13 (vp_nar .byte ((Int32.toInt8 (p0 >>> (16 &&& 31))).toInt32)))))] H := hP
  have hD : va_D A [(mo, .inr (11, ((fmo.set 2 (.int 13)).set 2 (.int 14)))), (mt, .inl (y 0, 940, .inl (upd (upd fmt 12 (vp_nar .byte ((Int32.toInt8 (p0 >>> (24 &&& 31))).toInt32))) 13 (vp_nar .byte ((Int32.toInt8 (p0 >>> (16 &&& 31))).toInt32)))))] := hD
  refine lv_iinc (v := 8) (lv' := [(2, .int 8), (0, .ref mo), (1, .int p0)]) hx hb dX11_four_30 hl (k := 0) rfl (by decide) (by decide) rfl (fun ls hl => ?_)
  refine lv_goto (tgt := 3) hx hb dX11_four_33 (by decide) ?_
  refine lv_iload_n hx hb dX11_four_3 rfl (lv_at hl 0 rfl) ?_
  refine lv_if_lt (tgt := 36) hx hb dX11_four_4 (by decide) (fun c_3 => absurd c_3 (by decide)) (fun _ => ?_)
  refine lv_aload_n hx hb dX11_four_7 rfl (lv_at hl 1 rfl) ?_
  refine va_get (D := D) (ci := 11) (v := .ref mt) (C := RX11) (T := TX11) (N := 65) hx hb hg inGX11 hown hK hP 0 rfl rfl 1 (by decide) (hg _ q_6_127) (fun _ h9 => h9) (px_sn (by decide) (px_sn (by decide) hmo_1)) dX11_four_8 ?_
  refine lv_aload_n hx hb dX11_four_11 rfl (lv_at hl 1 rfl) ?_
  refine va_get (D := D) (ci := 11) (v := .int 14) (C := RX11) (T := TX11) (N := 65) hx hb hg inGX11 hown hK hP 0 rfl rfl 2 (by decide) (hg _ q_6_128) (fun _ h9 => h9) (px_ss (px_ss hmo_2)) dX11_four_12 ?_
  refine lv_iload_n hx hb dX11_four_15 rfl (lv_at hl 2 rfl) ?_
  refine lv_iload_n hx hb dX11_four_16 rfl (lv_at hl 0 rfl) ?_
  refine lv_ishr hx hb dX11_four_17 ?_
  refine lv_i2b hx hb dX11_four_18 rfl ?_
  refine va_bast hx hb hK hP hD hS 1 0 rfl rfl (i := 14) (px_in (by decide)) dX11_four_19 (fun H locs hP hD hS => ?_)
  have hP : va_P D vwCl [(mo, .inr (11, ((fmo.set 2 (.int 13)).set 2 (.int 14)))), (mt, .inl (y 0, 940, .inl (upd (upd (upd fmt 12 (vp_nar .byte ((Int32.toInt8 (p0 >>> (24 &&& 31))).toInt32))) 13 (vp_nar .byte ((Int32.toInt8 (p0 >>> (16 &&& 31))).toInt32))) 14 (vp_nar .byte ((Int32.toInt8 (p0 >>> (8 &&& 31))).toInt32)))))] H := hP
  have hD : va_D A [(mo, .inr (11, ((fmo.set 2 (.int 13)).set 2 (.int 14)))), (mt, .inl (y 0, 940, .inl (upd (upd (upd fmt 12 (vp_nar .byte ((Int32.toInt8 (p0 >>> (24 &&& 31))).toInt32))) 13 (vp_nar .byte ((Int32.toInt8 (p0 >>> (16 &&& 31))).toInt32))) 14 (vp_nar .byte ((Int32.toInt8 (p0 >>> (8 &&& 31))).toInt32)))))] := hD
  refine lv_aload_n hx hb dX11_four_20 rfl (lv_at hl 1 rfl) ?_
  refine lv_dup hx hb dX11_four_21 rfl ?_
  refine va_get (D := D) (ci := 11) (v := .int 14) (C := RX11) (T := TX11) (N := 65) hx hb hg inGX11 hown hK hP 0 rfl rfl 2 (by decide) (hg _ q_6_128) (fun _ h9 => h9) (px_ss (px_ss hmo_2)) dX11_four_22 ?_
  refine lv_iconst (v := 1) hx hb dX11_four_25 (by decide) ?_
  refine lv_iadd hx hb dX11_four_26 ?_
  refine px_top (v := 15) (by decide) ?_
  refine va_put (D := D) (ci := 11) (v := .int 15) (ty := .int) (C := RX11) (T := TX11) (N := 65) hx hb hg inGX11 tyX11 tyX11_ok nmX11 hown hK hP hD hS 0 rfl rfl 2 (by decide) (hg _ q_6_128) (fun _ h9 => h9) rfl (by decide +kernel) rfl rfl (px_len (px_ss (px_ss hmo_2))) dX11_four_27 (fun H locs hP hD hS => ?_)
  have hP : va_P D vwCl [(mo, .inr (11, (((fmo.set 2 (.int 13)).set 2 (.int 14)).set 2 (.int 15)))), (mt, .inl (y 0, 940, .inl (upd (upd (upd fmt 12 (vp_nar .byte ((Int32.toInt8 (p0 >>> (24 &&& 31))).toInt32))) 13 (vp_nar .byte ((Int32.toInt8 (p0 >>> (16 &&& 31))).toInt32))) 14 (vp_nar .byte ((Int32.toInt8 (p0 >>> (8 &&& 31))).toInt32)))))] H := hP
  have hD : va_D A [(mo, .inr (11, (((fmo.set 2 (.int 13)).set 2 (.int 14)).set 2 (.int 15)))), (mt, .inl (y 0, 940, .inl (upd (upd (upd fmt 12 (vp_nar .byte ((Int32.toInt8 (p0 >>> (24 &&& 31))).toInt32))) 13 (vp_nar .byte ((Int32.toInt8 (p0 >>> (16 &&& 31))).toInt32))) 14 (vp_nar .byte ((Int32.toInt8 (p0 >>> (8 &&& 31))).toInt32)))))] := hD
  refine lv_iinc (v := 0) (lv' := [(2, .int 0), (0, .ref mo), (1, .int p0)]) hx hb dX11_four_30 hl (k := 0) rfl (by decide) (by decide) rfl (fun ls hl => ?_)
  refine lv_goto (tgt := 3) hx hb dX11_four_33 (by decide) ?_
  refine lv_iload_n hx hb dX11_four_3 rfl (lv_at hl 0 rfl) ?_
  refine lv_if_lt (tgt := 36) hx hb dX11_four_4 (by decide) (fun c_4 => absurd c_4 (by decide)) (fun _ => ?_)
  refine lv_aload_n hx hb dX11_four_7 rfl (lv_at hl 1 rfl) ?_
  refine va_get (D := D) (ci := 11) (v := .ref mt) (C := RX11) (T := TX11) (N := 65) hx hb hg inGX11 hown hK hP 0 rfl rfl 1 (by decide) (hg _ q_6_127) (fun _ h9 => h9) (px_sn (by decide) (px_sn (by decide) (px_sn (by decide) hmo_1))) dX11_four_8 ?_
  refine lv_aload_n hx hb dX11_four_11 rfl (lv_at hl 1 rfl) ?_
  refine va_get (D := D) (ci := 11) (v := .int 15) (C := RX11) (T := TX11) (N := 65) hx hb hg inGX11 hown hK hP 0 rfl rfl 2 (by decide) (hg _ q_6_128) (fun _ h9 => h9) (px_ss (px_ss (px_ss hmo_2))) dX11_four_12 ?_
  refine lv_iload_n hx hb dX11_four_15 rfl (lv_at hl 2 rfl) ?_
  refine lv_iload_n hx hb dX11_four_16 rfl (lv_at hl 0 rfl) ?_
  refine lv_ishr hx hb dX11_four_17 ?_
  refine lv_i2b hx hb dX11_four_18 rfl ?_
  refine va_bast hx hb hK hP hD hS 1 0 rfl rfl (i := 15) (px_in (by decide)) dX11_four_19 (fun H locs hP hD hS => ?_)
  have hP : va_P D vwCl [(mo, .inr (11, (((fmo.set 2 (.int 13)).set 2 (.int 14)).set 2 (.int 15)))), (mt, .inl (y 0, 940, .inl (upd (upd (upd (upd fmt 12 (vp_nar .byte ((Int32.toInt8 (p0 >>> (24 &&& 31))).toInt32))) 13 (vp_nar .byte ((Int32.toInt8 (p0 >>> (16 &&& 31))).toInt32))) 14 (vp_nar .byte ((Int32.toInt8 (p0 >>> (8 &&& 31))).toInt32))) 15 (vp_nar .byte ((Int32.toInt8 (p0 >>> (0 &&& 31))).toInt32)))))] H := hP
  have hD : va_D A [(mo, .inr (11, (((fmo.set 2 (.int 13)).set 2 (.int 14)).set 2 (.int 15)))), (mt, .inl (y 0, 940, .inl (upd (upd (upd (upd fmt 12 (vp_nar .byte ((Int32.toInt8 (p0 >>> (24 &&& 31))).toInt32))) 13 (vp_nar .byte ((Int32.toInt8 (p0 >>> (16 &&& 31))).toInt32))) 14 (vp_nar .byte ((Int32.toInt8 (p0 >>> (8 &&& 31))).toInt32))) 15 (vp_nar .byte ((Int32.toInt8 (p0 >>> (0 &&& 31))).toInt32)))))] := hD
  refine lv_aload_n hx hb dX11_four_20 rfl (lv_at hl 1 rfl) ?_
  refine lv_dup hx hb dX11_four_21 rfl ?_
  refine va_get (D := D) (ci := 11) (v := .int 15) (C := RX11) (T := TX11) (N := 65) hx hb hg inGX11 hown hK hP 0 rfl rfl 2 (by decide) (hg _ q_6_128) (fun _ h9 => h9) (px_ss (px_ss (px_ss hmo_2))) dX11_four_22 ?_
  refine lv_iconst (v := 1) hx hb dX11_four_25 (by decide) ?_
  refine lv_iadd hx hb dX11_four_26 ?_
  refine px_top (v := 16) (by decide) ?_
  refine va_put (D := D) (ci := 11) (v := .int 16) (ty := .int) (C := RX11) (T := TX11) (N := 65) hx hb hg inGX11 tyX11 tyX11_ok nmX11 hown hK hP hD hS 0 rfl rfl 2 (by decide) (hg _ q_6_128) (fun _ h9 => h9) rfl (by decide +kernel) rfl rfl (px_len (px_ss (px_ss (px_ss hmo_2)))) dX11_four_27 (fun H locs hP hD hS => ?_)
  have hP : va_P D vwCl [(mo, .inr (11, ((((fmo.set 2 (.int 13)).set 2 (.int 14)).set 2 (.int 15)).set 2 (.int 16)))), (mt, .inl (y 0, 940, .inl (upd (upd (upd (upd fmt 12 (vp_nar .byte ((Int32.toInt8 (p0 >>> (24 &&& 31))).toInt32))) 13 (vp_nar .byte ((Int32.toInt8 (p0 >>> (16 &&& 31))).toInt32))) 14 (vp_nar .byte ((Int32.toInt8 (p0 >>> (8 &&& 31))).toInt32))) 15 (vp_nar .byte ((Int32.toInt8 (p0 >>> (0 &&& 31))).toInt32)))))] H := hP
  have hD : va_D A [(mo, .inr (11, ((((fmo.set 2 (.int 13)).set 2 (.int 14)).set 2 (.int 15)).set 2 (.int 16)))), (mt, .inl (y 0, 940, .inl (upd (upd (upd (upd fmt 12 (vp_nar .byte ((Int32.toInt8 (p0 >>> (24 &&& 31))).toInt32))) 13 (vp_nar .byte ((Int32.toInt8 (p0 >>> (16 &&& 31))).toInt32))) 14 (vp_nar .byte ((Int32.toInt8 (p0 >>> (8 &&& 31))).toInt32))) 15 (vp_nar .byte ((Int32.toInt8 (p0 >>> (0 &&& 31))).toInt32)))))] := hD
  refine lv_iinc (v := (-8)) (lv' := [(2, .int (-8)), (0, .ref mo), (1, .int p0)]) hx hb dX11_four_30 hl (k := 0) rfl (by decide) (by decide) rfl (fun ls hl => ?_)
  refine lv_goto (tgt := 3) hx hb dX11_four_33 (by decide) ?_
  refine lv_iload_n hx hb dX11_four_3 rfl (lv_at hl 0 rfl) ?_
  refine lv_if_lt (tgt := 36) hx hb dX11_four_4 (by decide) (fun _ => ?_) (fun c_5 => absurd c_5 (by decide))
  have hP9 := hP.sub (ws' := [(mo, .inr (11, ((((fmo.set 2 (.int 13)).set 2 (.int 14)).set 2 (.int 15)).set 2 (.int 16)))), (mt, .inl (y 0, 940, .inl (upd (upd (upd (upd fmt 12 (vp_nar .byte ((Int32.toInt8 (p0 >>> (24 &&& 31))).toInt32))) 13 (vp_nar .byte ((Int32.toInt8 (p0 >>> (16 &&& 31))).toInt32))) 14 (vp_nar .byte ((Int32.toInt8 (p0 >>> (8 &&& 31))).toInt32))) 15 (vp_nar .byte ((Int32.toInt8 (p0 >>> (0 &&& 31))).toInt32)))))]) [0, 1] rfl
  have hD9 := hD.sub (ws' := [(mo, .inr (11, ((((fmo.set 2 (.int 13)).set 2 (.int 14)).set 2 (.int 15)).set 2 (.int 16)))), (mt, .inl (y 0, 940, .inl (upd (upd (upd (upd fmt 12 (vp_nar .byte ((Int32.toInt8 (p0 >>> (24 &&& 31))).toInt32))) 13 (vp_nar .byte ((Int32.toInt8 (p0 >>> (16 &&& 31))).toInt32))) 14 (vp_nar .byte ((Int32.toInt8 (p0 >>> (8 &&& 31))).toInt32))) 15 (vp_nar .byte ((Int32.toInt8 (p0 >>> (0 &&& 31))).toInt32)))))]) [0, 1] (by decide) rfl
  exact W.vret hx hb hr (fun t ht hW => ⟨⟨(px_v [], px_vi [(upd (upd (upd (upd fmt 12 (vp_nar .byte ((Int32.toInt8 (p0 >>> (24 &&& 31))).toInt32))) 13 (vp_nar .byte ((Int32.toInt8 (p0 >>> (16 &&& 31))).toInt32))) 14 (vp_nar .byte ((Int32.toInt8 (p0 >>> (8 &&& 31))).toInt32))) 15 (vp_nar .byte ((Int32.toInt8 (p0 >>> (0 &&& 31))).toInt32)))], px_vl []), rfl, trivial, by rw [ht]; exact hP9, by subst hAe; exact hD9⟩, by subst hAe; exact hS.F ht⟩) (fun q h => by subst hAe; exact hS.2.2 q h) dX11_four_36

set_option maxHeartbeats 4000000 in
set_option maxRecDepth 100000 in
theorem c_X11_four_16 (l : Launch) (D : va_G) (y : Nat → ClassId) (sz : Nat) (mo : Nat) (fmo : List Value) (mt : Nat) (fmt : Nat → Int32) (p0 : Int32) (hmo_1 : fmo[1]? = some (.ref mt)) (hmo_2 : fmo[2]? = some (.int 16)) : Met l yX11_four (px_w yX11_four cX11_four 3 none) ({ frames := 0, cells := 0, slots := 0, locals := 0 }) (va_Pc [.ref mo, .int p0] (px_P D y sz [(mo, .inr (11, fmo)), (mt, .inl (y 0, 940, .inl fmt))])) (va_Qv (fun (u : px_U) => True) (fun (u : px_U) t => va_P D vwCl [(mo, .inr (11, ((((fmo.set 2 (.int 17)).set 2 (.int 18)).set 2 (.int 19)).set 2 (.int 20)))), (mt, .inl (y 0, 940, .inl (u.2.1 0)))] t.heap ∧ va_D (va_A [(mo, .inr (11, fmo)), (mt, .inl (y 0, 940, .inl fmt))] sz) [(mo, .inr (11, ((((fmo.set 2 (.int 17)).set 2 (.int 18)).set 2 (.int 19)).set 2 (.int 20)))), (mt, .inl (y 0, 940, .inl (u.2.1 0)))]) (va_A [(mo, .inr (11, fmo)), (mt, .inl (y 0, 940, .inl fmt))] sz)) 0 0 (va_A [(mo, .inr (11, fmo)), (mt, .inl (y 0, 940, .inl fmt))] sz) := by
  refine Met.ofW (cc := cX11_four) (maxL := 3) (ret := none) (by decide) rfl ?_
  intro p e s m args below meth c s₁ B hml hv
  obtain ⟨rfl, hsz, hP, hK, hD0⟩ := hv
  have hx := B.exec
  have hb := B.bytes
  have hr := B.returns
  have hts := atoms_spec (ws := px_w yX11_four cX11_four 3 none) B.pre
  have hg : ∀ w ∈ gw, w.before [.ref mo, .int p0].toArray s = true := fun w h => hts w (List.mem_cons_of_mem _ h)
  have hown : s.vm.findClass RX11 = some m.cls := findClass_of_methodNamed B.named
  have hlocks := B.notSynchronized
  subst hsz
  have hD := hD0.self (sz := s.heap.size)
  generalize hAe : va_A [(mo, .inr (11, fmo)), (mt, .inl (y 0, 940, .inl fmt))] s.heap.size = A at hD ⊢
  have hA : ∀ q : Nat, s.heap.size ≤ q → A q := fun q h => by rw [← hAe]; exact Or.inr h
  have hS : va_S A s.heap s.heap [] := va_S.rf
  have hP : va_P D vwCl [(mo, .inr (11, fmo)), (mt, .inl (y 0, 940, .inl fmt))] s.heap := hP
  have hl := lv_entry ([.ref mo, .int p0]) (n := 3) (Nat.le_of_ble_eq_true rfl)
  rw [lg_entry_eq]
  generalize (lg_sl ([.ref mo, .int p0]) ++ List.replicate (3 - (lg_sl ([.ref mo, .int p0])).length) Slot.unset).toArray = ls at hl ⊢
  have hl : lv_has ls 3 [(0, .ref mo), (1, .int p0)] := hl
  refine lv_bipush (v := 24) hx hb dX11_four_0 (by decide) ?_
  refine lv_istore_n (lv' := [(2, .int 24), (0, .ref mo), (1, .int p0)]) hx hb dX11_four_2 rfl hl (by decide) rfl (fun ls hl => ?_)
  refine lv_iload_n hx hb dX11_four_3 rfl (lv_at hl 0 rfl) ?_
  refine lv_if_lt (tgt := 36) hx hb dX11_four_4 (by decide) (fun c_1 => absurd c_1 (by decide)) (fun _ => ?_)
  refine lv_aload_n hx hb dX11_four_7 rfl (lv_at hl 1 rfl) ?_
  refine va_get (D := D) (ci := 11) (v := .ref mt) (C := RX11) (T := TX11) (N := 65) hx hb hg inGX11 hown hK hP 0 rfl rfl 1 (by decide) (hg _ q_6_127) (fun _ h9 => h9) hmo_1 dX11_four_8 ?_
  refine lv_aload_n hx hb dX11_four_11 rfl (lv_at hl 1 rfl) ?_
  refine va_get (D := D) (ci := 11) (v := .int 16) (C := RX11) (T := TX11) (N := 65) hx hb hg inGX11 hown hK hP 0 rfl rfl 2 (by decide) (hg _ q_6_128) (fun _ h9 => h9) hmo_2 dX11_four_12 ?_
  refine lv_iload_n hx hb dX11_four_15 rfl (lv_at hl 2 rfl) ?_
  refine lv_iload_n hx hb dX11_four_16 rfl (lv_at hl 0 rfl) ?_
  refine lv_ishr hx hb dX11_four_17 ?_
  refine lv_i2b hx hb dX11_four_18 rfl ?_
  refine va_bast hx hb hK hP hD hS 1 0 rfl rfl (i := 16) (px_in (by decide)) dX11_four_19 (fun H locs hP hD hS => ?_)
  have hP : va_P D vwCl [(mo, .inr (11, fmo)), (mt, .inl (y 0, 940, .inl (upd fmt 16 (vp_nar .byte ((Int32.toInt8 (p0 >>> (24 &&& 31))).toInt32)))))] H := hP
  have hD : va_D A [(mo, .inr (11, fmo)), (mt, .inl (y 0, 940, .inl (upd fmt 16 (vp_nar .byte ((Int32.toInt8 (p0 >>> (24 &&& 31))).toInt32)))))] := hD
  refine lv_aload_n hx hb dX11_four_20 rfl (lv_at hl 1 rfl) ?_
  refine lv_dup hx hb dX11_four_21 rfl ?_
  refine va_get (D := D) (ci := 11) (v := .int 16) (C := RX11) (T := TX11) (N := 65) hx hb hg inGX11 hown hK hP 0 rfl rfl 2 (by decide) (hg _ q_6_128) (fun _ h9 => h9) hmo_2 dX11_four_22 ?_
  refine lv_iconst (v := 1) hx hb dX11_four_25 (by decide) ?_
  refine lv_iadd hx hb dX11_four_26 ?_
  refine px_top (v := 17) (by decide) ?_
  refine va_put (D := D) (ci := 11) (v := .int 17) (ty := .int) (C := RX11) (T := TX11) (N := 65) hx hb hg inGX11 tyX11 tyX11_ok nmX11 hown hK hP hD hS 0 rfl rfl 2 (by decide) (hg _ q_6_128) (fun _ h9 => h9) rfl (by decide +kernel) rfl rfl (px_len hmo_2) dX11_four_27 (fun H locs hP hD hS => ?_)
  have hP : va_P D vwCl [(mo, .inr (11, (fmo.set 2 (.int 17)))), (mt, .inl (y 0, 940, .inl (upd fmt 16 (vp_nar .byte ((Int32.toInt8 (p0 >>> (24 &&& 31))).toInt32)))))] H := hP
  have hD : va_D A [(mo, .inr (11, (fmo.set 2 (.int 17)))), (mt, .inl (y 0, 940, .inl (upd fmt 16 (vp_nar .byte ((Int32.toInt8 (p0 >>> (24 &&& 31))).toInt32)))))] := hD
  refine lv_iinc (v := 16) (lv' := [(2, .int 16), (0, .ref mo), (1, .int p0)]) hx hb dX11_four_30 hl (k := 0) rfl (by decide) (by decide) rfl (fun ls hl => ?_)
  refine lv_goto (tgt := 3) hx hb dX11_four_33 (by decide) ?_
  refine lv_iload_n hx hb dX11_four_3 rfl (lv_at hl 0 rfl) ?_
  refine lv_if_lt (tgt := 36) hx hb dX11_four_4 (by decide) (fun c_2 => absurd c_2 (by decide)) (fun _ => ?_)
  refine lv_aload_n hx hb dX11_four_7 rfl (lv_at hl 1 rfl) ?_
  refine va_get (D := D) (ci := 11) (v := .ref mt) (C := RX11) (T := TX11) (N := 65) hx hb hg inGX11 hown hK hP 0 rfl rfl 1 (by decide) (hg _ q_6_127) (fun _ h9 => h9) (px_sn (by decide) hmo_1) dX11_four_8 ?_
  refine lv_aload_n hx hb dX11_four_11 rfl (lv_at hl 1 rfl) ?_
  refine va_get (D := D) (ci := 11) (v := .int 17) (C := RX11) (T := TX11) (N := 65) hx hb hg inGX11 hown hK hP 0 rfl rfl 2 (by decide) (hg _ q_6_128) (fun _ h9 => h9) (px_ss hmo_2) dX11_four_12 ?_
  refine lv_iload_n hx hb dX11_four_15 rfl (lv_at hl 2 rfl) ?_
  refine lv_iload_n hx hb dX11_four_16 rfl (lv_at hl 0 rfl) ?_
  refine lv_ishr hx hb dX11_four_17 ?_
  refine lv_i2b hx hb dX11_four_18 rfl ?_
  refine va_bast hx hb hK hP hD hS 1 0 rfl rfl (i := 17) (px_in (by decide)) dX11_four_19 (fun H locs hP hD hS => ?_)
  have hP : va_P D vwCl [(mo, .inr (11, (fmo.set 2 (.int 17)))), (mt, .inl (y 0, 940, .inl (upd (upd fmt 16 (vp_nar .byte ((Int32.toInt8 (p0 >>> (24 &&& 31))).toInt32))) 17 (vp_nar .byte ((Int32.toInt8 (p0 >>> (16 &&& 31))).toInt32)))))] H := hP
  have hD : va_D A [(mo, .inr (11, (fmo.set 2 (.int 17)))), (mt, .inl (y 0, 940, .inl (upd (upd fmt 16 (vp_nar .byte ((Int32.toInt8 (p0 >>> (24 &&& 31))).toInt32))) 17 (vp_nar .byte ((Int32.toInt8 (p0 >>> (16 &&& 31))).toInt32)))))] := hD
  refine lv_aload_n hx hb dX11_four_20 rfl (lv_at hl 1 rfl) ?_
  refine lv_dup hx hb dX11_four_21 rfl ?_
  refine va_get (D := D) (ci := 11) (v := .int 17) (C := RX11) (T := TX11) (N := 65) hx hb hg inGX11 hown hK hP 0 rfl rfl 2 (by decide) (hg _ q_6_128) (fun _ h9 => h9) (px_ss hmo_2) dX11_four_22 ?_
  refine lv_iconst (v := 1) hx hb dX11_four_25 (by decide) ?_
  refine lv_iadd hx hb dX11_four_26 ?_
  refine px_top (v := 18) (by decide) ?_
  refine va_put (D := D) (ci := 11) (v := .int 18) (ty := .int) (C := RX11) (T := TX11) (N := 65) hx hb hg inGX11 tyX11 tyX11_ok nmX11 hown hK hP hD hS 0 rfl rfl 2 (by decide) (hg _ q_6_128) (fun _ h9 => h9) rfl (by decide +kernel) rfl rfl (px_len (px_ss hmo_2)) dX11_four_27 (fun H locs hP hD hS => ?_)
  have hP : va_P D vwCl [(mo, .inr (11, ((fmo.set 2 (.int 17)).set 2 (.int 18)))), (mt, .inl (y 0, 940, .inl (upd (upd fmt 16 (vp_nar .byte ((Int32.toInt8 (p0 >>> (24 &&& 31))).toInt32))) 17 (vp_nar .byte ((Int32.toInt8 (p0 >>> (16 &&& 31))).toInt32)))))] H := hP
  have hD : va_D A [(mo, .inr (11, ((fmo.set 2 (.int 17)).set 2 (.int 18)))), (mt, .inl (y 0, 940, .inl (upd (upd fmt 16 (vp_nar .byte ((Int32.toInt8 (p0 >>> (24 &&& 31))).toInt32))) 17 (vp_nar .byte ((Int32.toInt8 (p0 >>> (16 &&& 31))).toInt32)))))] := hD
  refine lv_iinc (v := 8) (lv' := [(2, .int 8), (0, .ref mo), (1, .int p0)]) hx hb dX11_four_30 hl (k := 0) rfl (by decide) (by decide) rfl (fun ls hl => ?_)
  refine lv_goto (tgt := 3) hx hb dX11_four_33 (by decide) ?_
  refine lv_iload_n hx hb dX11_four_3 rfl (lv_at hl 0 rfl) ?_
  refine lv_if_lt (tgt := 36) hx hb dX11_four_4 (by decide) (fun c_3 => absurd c_3 (by decide)) (fun _ => ?_)
  refine lv_aload_n hx hb dX11_four_7 rfl (lv_at hl 1 rfl) ?_
  refine va_get (D := D) (ci := 11) (v := .ref mt) (C := RX11) (T := TX11) (N := 65) hx hb hg inGX11 hown hK hP 0 rfl rfl 1 (by decide) (hg _ q_6_127) (fun _ h9 => h9) (px_sn (by decide) (px_sn (by decide) hmo_1)) dX11_four_8 ?_
  refine lv_aload_n hx hb dX11_four_11 rfl (lv_at hl 1 rfl) ?_
  refine va_get (D := D) (ci := 11) (v := .int 18) (C := RX11) (T := TX11) (N := 65) hx hb hg inGX11 hown hK hP 0 rfl rfl 2 (by decide) (hg _ q_6_128) (fun _ h9 => h9) (px_ss (px_ss hmo_2)) dX11_four_12 ?_
  refine lv_iload_n hx hb dX11_four_15 rfl (lv_at hl 2 rfl) ?_
  refine lv_iload_n hx hb dX11_four_16 rfl (lv_at hl 0 rfl) ?_
  refine lv_ishr hx hb dX11_four_17 ?_
  refine lv_i2b hx hb dX11_four_18 rfl ?_
  refine va_bast hx hb hK hP hD hS 1 0 rfl rfl (i := 18) (px_in (by decide)) dX11_four_19 (fun H locs hP hD hS => ?_)
  have hP : va_P D vwCl [(mo, .inr (11, ((fmo.set 2 (.int 17)).set 2 (.int 18)))), (mt, .inl (y 0, 940, .inl (upd (upd (upd fmt 16 (vp_nar .byte ((Int32.toInt8 (p0 >>> (24 &&& 31))).toInt32))) 17 (vp_nar .byte ((Int32.toInt8 (p0 >>> (16 &&& 31))).toInt32))) 18 (vp_nar .byte ((Int32.toInt8 (p0 >>> (8 &&& 31))).toInt32)))))] H := hP
  have hD : va_D A [(mo, .inr (11, ((fmo.set 2 (.int 17)).set 2 (.int 18)))), (mt, .inl (y 0, 940, .inl (upd (upd (upd fmt 16 (vp_nar .byte ((Int32.toInt8 (p0 >>> (24 &&& 31))).toInt32))) 17 (vp_nar .byte ((Int32.toInt8 (p0 >>> (16 &&& 31))).toInt32))) 18 (vp_nar .byte ((Int32.toInt8 (p0 >>> (8 &&& 31))).toInt32)))))] := hD
  refine lv_aload_n hx hb dX11_four_20 rfl (lv_at hl 1 rfl) ?_
  refine lv_dup hx hb dX11_four_21 rfl ?_
  refine va_get (D := D) (ci := 11) (v := .int 18) (C := RX11) (T := TX11) (N := 65) hx hb hg inGX11 hown hK hP 0 rfl rfl 2 (by decide) (hg _ q_6_128) (fun _ h9 => h9) (px_ss (px_ss hmo_2)) dX11_four_22 ?_
  refine lv_iconst (v := 1) hx hb dX11_four_25 (by decide) ?_
  refine lv_iadd hx hb dX11_four_26 ?_
  refine px_top (v := 19) (by decide) ?_
  refine va_put (D := D) (ci := 11) (v := .int 19) (ty := .int) (C := RX11) (T := TX11) (N := 65) hx hb hg inGX11 tyX11 tyX11_ok nmX11 hown hK hP hD hS 0 rfl rfl 2 (by decide) (hg _ q_6_128) (fun _ h9 => h9) rfl (by decide +kernel) rfl rfl (px_len (px_ss (px_ss hmo_2))) dX11_four_27 (fun H locs hP hD hS => ?_)
  have hP : va_P D vwCl [(mo, .inr (11, (((fmo.set 2 (.int 17)).set 2 (.int 18)).set 2 (.int 19)))), (mt, .inl (y 0, 940, .inl (upd (upd (upd fmt 16 (vp_nar .byte ((Int32.toInt8 (p0 >>> (24 &&& 31))).toInt32))) 17 (vp_nar .byte ((Int32.toInt8 (p0 >>> (16 &&& 31))).toInt32))) 18 (vp_nar .byte ((Int32.toInt8 (p0 >>> (8 &&& 31))).toInt32)))))] H := hP
  have hD : va_D A [(mo, .inr (11, (((fmo.set 2 (.int 17)).set 2 (.int 18)).set 2 (.int 19)))), (mt, .inl (y 0, 940, .inl (upd (upd (upd fmt 16 (vp_nar .byte ((Int32.toInt8 (p0 >>> (24 &&& 31))).toInt32))) 17 (vp_nar .byte ((Int32.toInt8 (p0 >>> (16 &&& 31))).toInt32))) 18 (vp_nar .byte ((Int32.toInt8 (p0 >>> (8 &&& 31))).toInt32)))))] := hD
  refine lv_iinc (v := 0) (lv' := [(2, .int 0), (0, .ref mo), (1, .int p0)]) hx hb dX11_four_30 hl (k := 0) rfl (by decide) (by decide) rfl (fun ls hl => ?_)
  refine lv_goto (tgt := 3) hx hb dX11_four_33 (by decide) ?_
  refine lv_iload_n hx hb dX11_four_3 rfl (lv_at hl 0 rfl) ?_
  refine lv_if_lt (tgt := 36) hx hb dX11_four_4 (by decide) (fun c_4 => absurd c_4 (by decide)) (fun _ => ?_)
  refine lv_aload_n hx hb dX11_four_7 rfl (lv_at hl 1 rfl) ?_
  refine va_get (D := D) (ci := 11) (v := .ref mt) (C := RX11) (T := TX11) (N := 65) hx hb hg inGX11 hown hK hP 0 rfl rfl 1 (by decide) (hg _ q_6_127) (fun _ h9 => h9) (px_sn (by decide) (px_sn (by decide) (px_sn (by decide) hmo_1))) dX11_four_8 ?_
  refine lv_aload_n hx hb dX11_four_11 rfl (lv_at hl 1 rfl) ?_
  refine va_get (D := D) (ci := 11) (v := .int 19) (C := RX11) (T := TX11) (N := 65) hx hb hg inGX11 hown hK hP 0 rfl rfl 2 (by decide) (hg _ q_6_128) (fun _ h9 => h9) (px_ss (px_ss (px_ss hmo_2))) dX11_four_12 ?_
  refine lv_iload_n hx hb dX11_four_15 rfl (lv_at hl 2 rfl) ?_
  refine lv_iload_n hx hb dX11_four_16 rfl (lv_at hl 0 rfl) ?_
  refine lv_ishr hx hb dX11_four_17 ?_
  refine lv_i2b hx hb dX11_four_18 rfl ?_
  refine va_bast hx hb hK hP hD hS 1 0 rfl rfl (i := 19) (px_in (by decide)) dX11_four_19 (fun H locs hP hD hS => ?_)
  have hP : va_P D vwCl [(mo, .inr (11, (((fmo.set 2 (.int 17)).set 2 (.int 18)).set 2 (.int 19)))), (mt, .inl (y 0, 940, .inl (upd (upd (upd (upd fmt 16 (vp_nar .byte ((Int32.toInt8 (p0 >>> (24 &&& 31))).toInt32))) 17 (vp_nar .byte ((Int32.toInt8 (p0 >>> (16 &&& 31))).toInt32))) 18 (vp_nar .byte ((Int32.toInt8 (p0 >>> (8 &&& 31))).toInt32))) 19 (vp_nar .byte ((Int32.toInt8 (p0 >>> (0 &&& 31))).toInt32)))))] H := hP
  have hD : va_D A [(mo, .inr (11, (((fmo.set 2 (.int 17)).set 2 (.int 18)).set 2 (.int 19)))), (mt, .inl (y 0, 940, .inl (upd (upd (upd (upd fmt 16 (vp_nar .byte ((Int32.toInt8 (p0 >>> (24 &&& 31))).toInt32))) 17 (vp_nar .byte ((Int32.toInt8 (p0 >>> (16 &&& 31))).toInt32))) 18 (vp_nar .byte ((Int32.toInt8 (p0 >>> (8 &&& 31))).toInt32))) 19 (vp_nar .byte ((Int32.toInt8 (p0 >>> (0 &&& 31))).toInt32)))))] := hD
  refine lv_aload_n hx hb dX11_four_20 rfl (lv_at hl 1 rfl) ?_
  refine lv_dup hx hb dX11_four_21 rfl ?_
  refine va_get (D := D) (ci := 11) (v := .int 19) (C := RX11) (T := TX11) (N := 65) hx hb hg inGX11 hown hK hP 0 rfl rfl 2 (by decide) (hg _ q_6_128) (fun _ h9 => h9) (px_ss (px_ss (px_ss hmo_2))) dX11_four_22 ?_
  refine lv_iconst (v := 1) hx hb dX11_four_25 (by decide) ?_
  refine lv_iadd hx hb dX11_four_26 ?_
  refine px_top (v := 20) (by decide) ?_
  refine va_put (D := D) (ci := 11) (v := .int 20) (ty := .int) (C := RX11) (T := TX11) (N := 65) hx hb hg inGX11 tyX11 tyX11_ok nmX11 hown hK hP hD hS 0 rfl rfl 2 (by decide) (hg _ q_6_128) (fun _ h9 => h9) rfl (by decide +kernel) rfl rfl (px_len (px_ss (px_ss (px_ss hmo_2)))) dX11_four_27 (fun H locs hP hD hS => ?_)
  have hP : va_P D vwCl [(mo, .inr (11, ((((fmo.set 2 (.int 17)).set 2 (.int 18)).set 2 (.int 19)).set 2 (.int 20)))), (mt, .inl (y 0, 940, .inl (upd (upd (upd (upd fmt 16 (vp_nar .byte ((Int32.toInt8 (p0 >>> (24 &&& 31))).toInt32))) 17 (vp_nar .byte ((Int32.toInt8 (p0 >>> (16 &&& 31))).toInt32))) 18 (vp_nar .byte ((Int32.toInt8 (p0 >>> (8 &&& 31))).toInt32))) 19 (vp_nar .byte ((Int32.toInt8 (p0 >>> (0 &&& 31))).toInt32)))))] H := hP
  have hD : va_D A [(mo, .inr (11, ((((fmo.set 2 (.int 17)).set 2 (.int 18)).set 2 (.int 19)).set 2 (.int 20)))), (mt, .inl (y 0, 940, .inl (upd (upd (upd (upd fmt 16 (vp_nar .byte ((Int32.toInt8 (p0 >>> (24 &&& 31))).toInt32))) 17 (vp_nar .byte ((Int32.toInt8 (p0 >>> (16 &&& 31))).toInt32))) 18 (vp_nar .byte ((Int32.toInt8 (p0 >>> (8 &&& 31))).toInt32))) 19 (vp_nar .byte ((Int32.toInt8 (p0 >>> (0 &&& 31))).toInt32)))))] := hD
  refine lv_iinc (v := (-8)) (lv' := [(2, .int (-8)), (0, .ref mo), (1, .int p0)]) hx hb dX11_four_30 hl (k := 0) rfl (by decide) (by decide) rfl (fun ls hl => ?_)
  refine lv_goto (tgt := 3) hx hb dX11_four_33 (by decide) ?_
  refine lv_iload_n hx hb dX11_four_3 rfl (lv_at hl 0 rfl) ?_
  refine lv_if_lt (tgt := 36) hx hb dX11_four_4 (by decide) (fun _ => ?_) (fun c_5 => absurd c_5 (by decide))
  have hP9 := hP.sub (ws' := [(mo, .inr (11, ((((fmo.set 2 (.int 17)).set 2 (.int 18)).set 2 (.int 19)).set 2 (.int 20)))), (mt, .inl (y 0, 940, .inl (upd (upd (upd (upd fmt 16 (vp_nar .byte ((Int32.toInt8 (p0 >>> (24 &&& 31))).toInt32))) 17 (vp_nar .byte ((Int32.toInt8 (p0 >>> (16 &&& 31))).toInt32))) 18 (vp_nar .byte ((Int32.toInt8 (p0 >>> (8 &&& 31))).toInt32))) 19 (vp_nar .byte ((Int32.toInt8 (p0 >>> (0 &&& 31))).toInt32)))))]) [0, 1] rfl
  have hD9 := hD.sub (ws' := [(mo, .inr (11, ((((fmo.set 2 (.int 17)).set 2 (.int 18)).set 2 (.int 19)).set 2 (.int 20)))), (mt, .inl (y 0, 940, .inl (upd (upd (upd (upd fmt 16 (vp_nar .byte ((Int32.toInt8 (p0 >>> (24 &&& 31))).toInt32))) 17 (vp_nar .byte ((Int32.toInt8 (p0 >>> (16 &&& 31))).toInt32))) 18 (vp_nar .byte ((Int32.toInt8 (p0 >>> (8 &&& 31))).toInt32))) 19 (vp_nar .byte ((Int32.toInt8 (p0 >>> (0 &&& 31))).toInt32)))))]) [0, 1] (by decide) rfl
  exact W.vret hx hb hr (fun t ht hW => ⟨⟨(px_v [], px_vi [(upd (upd (upd (upd fmt 16 (vp_nar .byte ((Int32.toInt8 (p0 >>> (24 &&& 31))).toInt32))) 17 (vp_nar .byte ((Int32.toInt8 (p0 >>> (16 &&& 31))).toInt32))) 18 (vp_nar .byte ((Int32.toInt8 (p0 >>> (8 &&& 31))).toInt32))) 19 (vp_nar .byte ((Int32.toInt8 (p0 >>> (0 &&& 31))).toInt32)))], px_vl []), rfl, trivial, by rw [ht]; exact hP9, by subst hAe; exact hD9⟩, by subst hAe; exact hS.F ht⟩) (fun q h => by subst hAe; exact hS.2.2 q h) dX11_four_36

set_option maxHeartbeats 4000000 in
set_option maxRecDepth 100000 in
theorem c_X11_feed (l : Launch) (D : va_G) (y : Nat → ClassId) (sz : Nat) (mo : Nat) (fmo : List Value) (mt : Nat) (fmt : Nat → Int32) (p0 : Int32) (p1 : Int32) (p2 : Int32) (p3 : Int32) (p4 : Int32) (hmo_0 : fmo[0]? = some (.int 0)) (hmo_1 : fmo[1]? = some (.ref mt)) (hmo_2 : fmo[2]? = some (.int 0)) : Met l yX11_feed (px_w yX11_feed cX11_feed 6 (some .int)) ({ frames := 1, cells := 0, slots := 0, locals := 22 }) (va_Pc [.ref mo, .int p0, .int p1, .int p2, .int p3, .int p4] (px_P D y sz [(mo, .inr (11, fmo)), (mt, .inl (y 0, 940, .inl fmt))])) (va_Qi (fun (r : Int32) (u : Unit) => r = 20) (fun (u : Unit) t => True) (va_A [(mo, .inr (11, fmo)), (mt, .inl (y 0, 940, .inl fmt))] sz)) 0 0 (va_A [(mo, .inr (11, fmo)), (mt, .inl (y 0, 940, .inl fmt))] sz) := by
  refine Met.ofW (cc := cX11_feed) (maxL := 6) (ret := (some .int)) (by decide) rfl ?_
  intro p e s m args below meth c s₁ B hml hv
  obtain ⟨rfl, hsz, hP, hK, hD0⟩ := hv
  have hx := B.exec
  have hb := B.bytes
  have hr := B.returns
  have hts := atoms_spec (ws := px_w yX11_feed cX11_feed 6 (some .int)) B.pre
  have hg : ∀ w ∈ gw, w.before [.ref mo, .int p0, .int p1, .int p2, .int p3, .int p4].toArray s = true := fun w h => hts w (List.mem_cons_of_mem _ h)
  have hown : s.vm.findClass RX11 = some m.cls := findClass_of_methodNamed B.named
  have hlocks := B.notSynchronized
  subst hsz
  have hD := hD0.self (sz := s.heap.size)
  generalize hAe : va_A [(mo, .inr (11, fmo)), (mt, .inl (y 0, 940, .inl fmt))] s.heap.size = A at hD ⊢
  have hA : ∀ q : Nat, s.heap.size ≤ q → A q := fun q h => by rw [← hAe]; exact Or.inr h
  have hS : va_S A s.heap s.heap [] := va_S.rf
  have hP : va_P D vwCl [(mo, .inr (11, fmo)), (mt, .inl (y 0, 940, .inl fmt))] s.heap := hP
  have hl := lv_entry ([.ref mo, .int p0, .int p1, .int p2, .int p3, .int p4]) (n := 6) (Nat.le_of_ble_eq_true rfl)
  rw [lg_entry_eq]
  generalize (lg_sl ([.ref mo, .int p0, .int p1, .int p2, .int p3, .int p4]) ++ List.replicate (6 - (lg_sl ([.ref mo, .int p0, .int p1, .int p2, .int p3, .int p4])).length) Slot.unset).toArray = ls at hl ⊢
  have hl : lv_has ls 6 [(0, .ref mo), (1, .int p0), (2, .int p1), (3, .int p2), (4, .int p3), (5, .int p4)] := hl
  refine lv_aload_n hx hb dX11_feed_0 rfl (lv_at hl 0 rfl) ?_
  refine lv_iconst (v := 0) hx hb dX11_feed_1 (by decide) ?_
  refine va_put (D := D) (ci := 11) (v := .int 0) (ty := .int) (C := RX11) (T := TX11) (N := 65) hx hb hg inGX11 tyX11 tyX11_ok nmX11 hown hK hP hD hS 0 rfl rfl 0 (by decide) (hg _ q_6_126) (fun _ h9 => h9) rfl (by decide +kernel) rfl rfl (px_len hmo_0) dX11_feed_2 (fun H locs hP hD hS => ?_)
  have hP : va_P D vwCl [(mo, .inr (11, (fmo.set 0 (.int 0)))), (mt, .inl (y 0, 940, .inl fmt))] H := hP
  have hD : va_D A [(mo, .inr (11, (fmo.set 0 (.int 0)))), (mt, .inl (y 0, 940, .inl fmt))] := hD
  refine lv_aload_n hx hb dX11_feed_5 rfl (lv_at hl 0 rfl) ?_
  refine va_get (D := D) (ci := 11) (v := .int 0) (C := RX11) (T := TX11) (N := 65) hx hb hg inGX11 hown hK hP 0 rfl rfl 2 (by decide) (hg _ q_6_128) (fun _ h9 => h9) (px_sn (by decide) hmo_2) dX11_feed_6 ?_
  refine lv_bipush (v := 20) hx hb dX11_feed_9 (by decide) ?_
  refine lv_iadd hx hb dX11_feed_11 ?_
  refine px_top (v := 20) (by decide) ?_
  refine lv_sipush (v := 940) hx hb dX11_feed_12 (by decide) ?_
  refine lv_icmp_le (tgt := 20) hx hb dX11_feed_15 (by decide) (fun _ => ?_) (fun c_1 => absurd c_1 (by decide))
  refine lv_aload_n hx hb dX11_feed_20 rfl (lv_at hl 0 rfl) ?_
  refine lv_iload_n hx hb dX11_feed_21 rfl (lv_at hl 1 rfl) ?_
  have hPc_2 := hP.sub (ws' := [(mo, .inr (11, (fmo.set 0 (.int 0)))), (mt, .inl (y 0, 940, .inl fmt))]) [0, 1] rfl
  have hDc_2 := hD.sub (ws' := [(mo, .inr (11, (fmo.set 0 (.int 0)))), (mt, .inl (y 0, 940, .inl fmt))]) [0, 1] (by decide) rfl
  have hFc_2 := va_free (wc := [(mo, .inr (11, (fmo.set 0 (.int 0)))), (mt, .inl (y 0, 940, .inl fmt))]) hD hS hA [0, 1] rfl
  refine va_callv (va_runV (As := [.int p0]) (rest := []) ⟨hx, hb, hml, hown, hg⟩ (c_X11_four_0 l D y H.size mo (fmo.set 0 (.int 0)) mt fmt p0 (px_sn (by decide) hmo_1) (px_sn (by decide) hmo_2)) (cwV 1 hg (px_gV q_6_92 q_6_94 q_p_58 q_1_15 q_6_96) rfl rfl rfl (by decide +kernel) ⟨Nat.le_of_ble_eq_true rfl, Nat.le_of_ble_eq_true rfl⟩) (px_preV hK hPc_2 hDc_2 (ci := 11) (q0 := 0) rfl rfl) rfl rfl hl.1 rfl (lv_room (Nat.le_of_ble_eq_true rfl)) dX11_feed_22 ⟨Nat.le_of_ble_eq_true rfl, Nat.le_of_ble_eq_true rfl⟩) hS (fun q _ h => hFc_2 q h) hFc_2 (fun u_2 t_2 H1 locs ht_2 hvm_2 hw_2 hB_2 hz_2 hk_2 hS => ?_)
  refine W.cs (cells' := 0) (slots' := 0) rfl rfl ?_
  obtain ⟨hP1_2, hD1_2⟩ := hB_2
  rw [ht_2] at hP1_2
  obtain ⟨hP, hD⟩ := va_join (wr := []) (w1 := [(mo, .inr (11, (((((fmo.set 0 (.int 0)).set 2 (.int 1)).set 2 (.int 2)).set 2 (.int 3)).set 2 (.int 4)))), (mt, .inl (y 0, 940, .inl (u_2.2.1 0)))]) hP hD [0, 1] [] rfl rfl (by decide) (by decide) hk_2 hFc_2 hP1_2 hD1_2
  generalize H1 = H at hP hS ⊢
  have hP : va_P D vwCl [(mo, .inr (11, (((((fmo.set 0 (.int 0)).set 2 (.int 1)).set 2 (.int 2)).set 2 (.int 3)).set 2 (.int 4)))), (mt, .inl (y 0, 940, .inl (u_2.2.1 0)))] H := hP
  have hD : va_D A [(mo, .inr (11, (((((fmo.set 0 (.int 0)).set 2 (.int 1)).set 2 (.int 2)).set 2 (.int 3)).set 2 (.int 4)))), (mt, .inl (y 0, 940, .inl (u_2.2.1 0)))] := hD
  refine lv_aload_n hx hb dX11_feed_25 rfl (lv_at hl 0 rfl) ?_
  refine lv_iload_n hx hb dX11_feed_26 rfl (lv_at hl 2 rfl) ?_
  have hPc_3 := hP.sub (ws' := [(mo, .inr (11, (((((fmo.set 0 (.int 0)).set 2 (.int 1)).set 2 (.int 2)).set 2 (.int 3)).set 2 (.int 4)))), (mt, .inl (y 0, 940, .inl (u_2.2.1 0)))]) [0, 1] rfl
  have hDc_3 := hD.sub (ws' := [(mo, .inr (11, (((((fmo.set 0 (.int 0)).set 2 (.int 1)).set 2 (.int 2)).set 2 (.int 3)).set 2 (.int 4)))), (mt, .inl (y 0, 940, .inl (u_2.2.1 0)))]) [0, 1] (by decide) rfl
  have hFc_3 := va_free (wc := [(mo, .inr (11, (((((fmo.set 0 (.int 0)).set 2 (.int 1)).set 2 (.int 2)).set 2 (.int 3)).set 2 (.int 4)))), (mt, .inl (y 0, 940, .inl (u_2.2.1 0)))]) hD hS hA [0, 1] rfl
  refine va_callv (va_runV (As := [.int p1]) (rest := []) ⟨hx, hb, hml, hown, hg⟩ (c_X11_four_4 l D y H.size mo (((((fmo.set 0 (.int 0)).set 2 (.int 1)).set 2 (.int 2)).set 2 (.int 3)).set 2 (.int 4)) mt (u_2.2.1 0) p1 (px_sn (by decide) (px_sn (by decide) (px_sn (by decide) (px_sn (by decide) (px_sn (by decide) hmo_1))))) (px_ss (px_ss (px_ss (px_ss (px_sn (by decide) hmo_2)))))) (cwV 1 hg (px_gV q_6_92 q_6_94 q_p_58 q_1_15 q_6_96) rfl rfl rfl (by decide +kernel) ⟨Nat.le_of_ble_eq_true rfl, Nat.le_of_ble_eq_true rfl⟩) (px_preV hK hPc_3 hDc_3 (ci := 11) (q0 := 0) rfl rfl) rfl rfl hl.1 rfl (lv_room (Nat.le_of_ble_eq_true rfl)) dX11_feed_27 ⟨Nat.le_of_ble_eq_true rfl, Nat.le_of_ble_eq_true rfl⟩) hS (fun q _ h => hFc_3 q h) hFc_3 (fun u_3 t_3 H1 locs ht_3 hvm_3 hw_3 hB_3 hz_3 hk_3 hS => ?_)
  refine W.cs (cells' := 0) (slots' := 0) rfl rfl ?_
  obtain ⟨hP1_3, hD1_3⟩ := hB_3
  rw [ht_3] at hP1_3
  obtain ⟨hP, hD⟩ := va_join (wr := []) (w1 := [(mo, .inr (11, (((((((((fmo.set 0 (.int 0)).set 2 (.int 1)).set 2 (.int 2)).set 2 (.int 3)).set 2 (.int 4)).set 2 (.int 5)).set 2 (.int 6)).set 2 (.int 7)).set 2 (.int 8)))), (mt, .inl (y 0, 940, .inl (u_3.2.1 0)))]) hP hD [0, 1] [] rfl rfl (by decide) (by decide) hk_3 hFc_3 hP1_3 hD1_3
  generalize H1 = H at hP hS ⊢
  have hP : va_P D vwCl [(mo, .inr (11, (((((((((fmo.set 0 (.int 0)).set 2 (.int 1)).set 2 (.int 2)).set 2 (.int 3)).set 2 (.int 4)).set 2 (.int 5)).set 2 (.int 6)).set 2 (.int 7)).set 2 (.int 8)))), (mt, .inl (y 0, 940, .inl (u_3.2.1 0)))] H := hP
  have hD : va_D A [(mo, .inr (11, (((((((((fmo.set 0 (.int 0)).set 2 (.int 1)).set 2 (.int 2)).set 2 (.int 3)).set 2 (.int 4)).set 2 (.int 5)).set 2 (.int 6)).set 2 (.int 7)).set 2 (.int 8)))), (mt, .inl (y 0, 940, .inl (u_3.2.1 0)))] := hD
  refine lv_aload_n hx hb dX11_feed_30 rfl (lv_at hl 0 rfl) ?_
  refine lv_iload_n hx hb dX11_feed_31 rfl (lv_at hl 3 rfl) ?_
  have hPc_4 := hP.sub (ws' := [(mo, .inr (11, (((((((((fmo.set 0 (.int 0)).set 2 (.int 1)).set 2 (.int 2)).set 2 (.int 3)).set 2 (.int 4)).set 2 (.int 5)).set 2 (.int 6)).set 2 (.int 7)).set 2 (.int 8)))), (mt, .inl (y 0, 940, .inl (u_3.2.1 0)))]) [0, 1] rfl
  have hDc_4 := hD.sub (ws' := [(mo, .inr (11, (((((((((fmo.set 0 (.int 0)).set 2 (.int 1)).set 2 (.int 2)).set 2 (.int 3)).set 2 (.int 4)).set 2 (.int 5)).set 2 (.int 6)).set 2 (.int 7)).set 2 (.int 8)))), (mt, .inl (y 0, 940, .inl (u_3.2.1 0)))]) [0, 1] (by decide) rfl
  have hFc_4 := va_free (wc := [(mo, .inr (11, (((((((((fmo.set 0 (.int 0)).set 2 (.int 1)).set 2 (.int 2)).set 2 (.int 3)).set 2 (.int 4)).set 2 (.int 5)).set 2 (.int 6)).set 2 (.int 7)).set 2 (.int 8)))), (mt, .inl (y 0, 940, .inl (u_3.2.1 0)))]) hD hS hA [0, 1] rfl
  refine va_callv (va_runV (As := [.int p2]) (rest := []) ⟨hx, hb, hml, hown, hg⟩ (c_X11_four_8 l D y H.size mo (((((((((fmo.set 0 (.int 0)).set 2 (.int 1)).set 2 (.int 2)).set 2 (.int 3)).set 2 (.int 4)).set 2 (.int 5)).set 2 (.int 6)).set 2 (.int 7)).set 2 (.int 8)) mt (u_3.2.1 0) p2 (px_sn (by decide) (px_sn (by decide) (px_sn (by decide) (px_sn (by decide) (px_sn (by decide) (px_sn (by decide) (px_sn (by decide) (px_sn (by decide) (px_sn (by decide) hmo_1))))))))) (px_ss (px_ss (px_ss (px_ss (px_ss (px_ss (px_ss (px_ss (px_sn (by decide) hmo_2)))))))))) (cwV 1 hg (px_gV q_6_92 q_6_94 q_p_58 q_1_15 q_6_96) rfl rfl rfl (by decide +kernel) ⟨Nat.le_of_ble_eq_true rfl, Nat.le_of_ble_eq_true rfl⟩) (px_preV hK hPc_4 hDc_4 (ci := 11) (q0 := 0) rfl rfl) rfl rfl hl.1 rfl (lv_room (Nat.le_of_ble_eq_true rfl)) dX11_feed_32 ⟨Nat.le_of_ble_eq_true rfl, Nat.le_of_ble_eq_true rfl⟩) hS (fun q _ h => hFc_4 q h) hFc_4 (fun u_4 t_4 H1 locs ht_4 hvm_4 hw_4 hB_4 hz_4 hk_4 hS => ?_)
  refine W.cs (cells' := 0) (slots' := 0) rfl rfl ?_
  obtain ⟨hP1_4, hD1_4⟩ := hB_4
  rw [ht_4] at hP1_4
  obtain ⟨hP, hD⟩ := va_join (wr := []) (w1 := [(mo, .inr (11, (((((((((((((fmo.set 0 (.int 0)).set 2 (.int 1)).set 2 (.int 2)).set 2 (.int 3)).set 2 (.int 4)).set 2 (.int 5)).set 2 (.int 6)).set 2 (.int 7)).set 2 (.int 8)).set 2 (.int 9)).set 2 (.int 10)).set 2 (.int 11)).set 2 (.int 12)))), (mt, .inl (y 0, 940, .inl (u_4.2.1 0)))]) hP hD [0, 1] [] rfl rfl (by decide) (by decide) hk_4 hFc_4 hP1_4 hD1_4
  generalize H1 = H at hP hS ⊢
  have hP : va_P D vwCl [(mo, .inr (11, (((((((((((((fmo.set 0 (.int 0)).set 2 (.int 1)).set 2 (.int 2)).set 2 (.int 3)).set 2 (.int 4)).set 2 (.int 5)).set 2 (.int 6)).set 2 (.int 7)).set 2 (.int 8)).set 2 (.int 9)).set 2 (.int 10)).set 2 (.int 11)).set 2 (.int 12)))), (mt, .inl (y 0, 940, .inl (u_4.2.1 0)))] H := hP
  have hD : va_D A [(mo, .inr (11, (((((((((((((fmo.set 0 (.int 0)).set 2 (.int 1)).set 2 (.int 2)).set 2 (.int 3)).set 2 (.int 4)).set 2 (.int 5)).set 2 (.int 6)).set 2 (.int 7)).set 2 (.int 8)).set 2 (.int 9)).set 2 (.int 10)).set 2 (.int 11)).set 2 (.int 12)))), (mt, .inl (y 0, 940, .inl (u_4.2.1 0)))] := hD
  refine lv_aload_n hx hb dX11_feed_35 rfl (lv_at hl 0 rfl) ?_
  refine lv_iload hx hb dX11_feed_36 (lv_at hl 4 rfl) ?_
  have hPc_5 := hP.sub (ws' := [(mo, .inr (11, (((((((((((((fmo.set 0 (.int 0)).set 2 (.int 1)).set 2 (.int 2)).set 2 (.int 3)).set 2 (.int 4)).set 2 (.int 5)).set 2 (.int 6)).set 2 (.int 7)).set 2 (.int 8)).set 2 (.int 9)).set 2 (.int 10)).set 2 (.int 11)).set 2 (.int 12)))), (mt, .inl (y 0, 940, .inl (u_4.2.1 0)))]) [0, 1] rfl
  have hDc_5 := hD.sub (ws' := [(mo, .inr (11, (((((((((((((fmo.set 0 (.int 0)).set 2 (.int 1)).set 2 (.int 2)).set 2 (.int 3)).set 2 (.int 4)).set 2 (.int 5)).set 2 (.int 6)).set 2 (.int 7)).set 2 (.int 8)).set 2 (.int 9)).set 2 (.int 10)).set 2 (.int 11)).set 2 (.int 12)))), (mt, .inl (y 0, 940, .inl (u_4.2.1 0)))]) [0, 1] (by decide) rfl
  have hFc_5 := va_free (wc := [(mo, .inr (11, (((((((((((((fmo.set 0 (.int 0)).set 2 (.int 1)).set 2 (.int 2)).set 2 (.int 3)).set 2 (.int 4)).set 2 (.int 5)).set 2 (.int 6)).set 2 (.int 7)).set 2 (.int 8)).set 2 (.int 9)).set 2 (.int 10)).set 2 (.int 11)).set 2 (.int 12)))), (mt, .inl (y 0, 940, .inl (u_4.2.1 0)))]) hD hS hA [0, 1] rfl
  refine va_callv (va_runV (As := [.int p3]) (rest := []) ⟨hx, hb, hml, hown, hg⟩ (c_X11_four_12 l D y H.size mo (((((((((((((fmo.set 0 (.int 0)).set 2 (.int 1)).set 2 (.int 2)).set 2 (.int 3)).set 2 (.int 4)).set 2 (.int 5)).set 2 (.int 6)).set 2 (.int 7)).set 2 (.int 8)).set 2 (.int 9)).set 2 (.int 10)).set 2 (.int 11)).set 2 (.int 12)) mt (u_4.2.1 0) p3 (px_sn (by decide) (px_sn (by decide) (px_sn (by decide) (px_sn (by decide) (px_sn (by decide) (px_sn (by decide) (px_sn (by decide) (px_sn (by decide) (px_sn (by decide) (px_sn (by decide) (px_sn (by decide) (px_sn (by decide) (px_sn (by decide) hmo_1))))))))))))) (px_ss (px_ss (px_ss (px_ss (px_ss (px_ss (px_ss (px_ss (px_ss (px_ss (px_ss (px_ss (px_sn (by decide) hmo_2)))))))))))))) (cwV 1 hg (px_gV q_6_92 q_6_94 q_p_58 q_1_15 q_6_96) rfl rfl rfl (by decide +kernel) ⟨Nat.le_of_ble_eq_true rfl, Nat.le_of_ble_eq_true rfl⟩) (px_preV hK hPc_5 hDc_5 (ci := 11) (q0 := 0) rfl rfl) rfl rfl hl.1 rfl (lv_room (Nat.le_of_ble_eq_true rfl)) dX11_feed_38 ⟨Nat.le_of_ble_eq_true rfl, Nat.le_of_ble_eq_true rfl⟩) hS (fun q _ h => hFc_5 q h) hFc_5 (fun u_5 t_5 H1 locs ht_5 hvm_5 hw_5 hB_5 hz_5 hk_5 hS => ?_)
  refine W.cs (cells' := 0) (slots' := 0) rfl rfl ?_
  obtain ⟨hP1_5, hD1_5⟩ := hB_5
  rw [ht_5] at hP1_5
  obtain ⟨hP, hD⟩ := va_join (wr := []) (w1 := [(mo, .inr (11, (((((((((((((((((fmo.set 0 (.int 0)).set 2 (.int 1)).set 2 (.int 2)).set 2 (.int 3)).set 2 (.int 4)).set 2 (.int 5)).set 2 (.int 6)).set 2 (.int 7)).set 2 (.int 8)).set 2 (.int 9)).set 2 (.int 10)).set 2 (.int 11)).set 2 (.int 12)).set 2 (.int 13)).set 2 (.int 14)).set 2 (.int 15)).set 2 (.int 16)))), (mt, .inl (y 0, 940, .inl (u_5.2.1 0)))]) hP hD [0, 1] [] rfl rfl (by decide) (by decide) hk_5 hFc_5 hP1_5 hD1_5
  generalize H1 = H at hP hS ⊢
  have hP : va_P D vwCl [(mo, .inr (11, (((((((((((((((((fmo.set 0 (.int 0)).set 2 (.int 1)).set 2 (.int 2)).set 2 (.int 3)).set 2 (.int 4)).set 2 (.int 5)).set 2 (.int 6)).set 2 (.int 7)).set 2 (.int 8)).set 2 (.int 9)).set 2 (.int 10)).set 2 (.int 11)).set 2 (.int 12)).set 2 (.int 13)).set 2 (.int 14)).set 2 (.int 15)).set 2 (.int 16)))), (mt, .inl (y 0, 940, .inl (u_5.2.1 0)))] H := hP
  have hD : va_D A [(mo, .inr (11, (((((((((((((((((fmo.set 0 (.int 0)).set 2 (.int 1)).set 2 (.int 2)).set 2 (.int 3)).set 2 (.int 4)).set 2 (.int 5)).set 2 (.int 6)).set 2 (.int 7)).set 2 (.int 8)).set 2 (.int 9)).set 2 (.int 10)).set 2 (.int 11)).set 2 (.int 12)).set 2 (.int 13)).set 2 (.int 14)).set 2 (.int 15)).set 2 (.int 16)))), (mt, .inl (y 0, 940, .inl (u_5.2.1 0)))] := hD
  refine lv_aload_n hx hb dX11_feed_41 rfl (lv_at hl 0 rfl) ?_
  refine lv_iload hx hb dX11_feed_42 (lv_at hl 5 rfl) ?_
  have hPc_6 := hP.sub (ws' := [(mo, .inr (11, (((((((((((((((((fmo.set 0 (.int 0)).set 2 (.int 1)).set 2 (.int 2)).set 2 (.int 3)).set 2 (.int 4)).set 2 (.int 5)).set 2 (.int 6)).set 2 (.int 7)).set 2 (.int 8)).set 2 (.int 9)).set 2 (.int 10)).set 2 (.int 11)).set 2 (.int 12)).set 2 (.int 13)).set 2 (.int 14)).set 2 (.int 15)).set 2 (.int 16)))), (mt, .inl (y 0, 940, .inl (u_5.2.1 0)))]) [0, 1] rfl
  have hDc_6 := hD.sub (ws' := [(mo, .inr (11, (((((((((((((((((fmo.set 0 (.int 0)).set 2 (.int 1)).set 2 (.int 2)).set 2 (.int 3)).set 2 (.int 4)).set 2 (.int 5)).set 2 (.int 6)).set 2 (.int 7)).set 2 (.int 8)).set 2 (.int 9)).set 2 (.int 10)).set 2 (.int 11)).set 2 (.int 12)).set 2 (.int 13)).set 2 (.int 14)).set 2 (.int 15)).set 2 (.int 16)))), (mt, .inl (y 0, 940, .inl (u_5.2.1 0)))]) [0, 1] (by decide) rfl
  have hFc_6 := va_free (wc := [(mo, .inr (11, (((((((((((((((((fmo.set 0 (.int 0)).set 2 (.int 1)).set 2 (.int 2)).set 2 (.int 3)).set 2 (.int 4)).set 2 (.int 5)).set 2 (.int 6)).set 2 (.int 7)).set 2 (.int 8)).set 2 (.int 9)).set 2 (.int 10)).set 2 (.int 11)).set 2 (.int 12)).set 2 (.int 13)).set 2 (.int 14)).set 2 (.int 15)).set 2 (.int 16)))), (mt, .inl (y 0, 940, .inl (u_5.2.1 0)))]) hD hS hA [0, 1] rfl
  refine va_callv (va_runV (As := [.int p4]) (rest := []) ⟨hx, hb, hml, hown, hg⟩ (c_X11_four_16 l D y H.size mo (((((((((((((((((fmo.set 0 (.int 0)).set 2 (.int 1)).set 2 (.int 2)).set 2 (.int 3)).set 2 (.int 4)).set 2 (.int 5)).set 2 (.int 6)).set 2 (.int 7)).set 2 (.int 8)).set 2 (.int 9)).set 2 (.int 10)).set 2 (.int 11)).set 2 (.int 12)).set 2 (.int 13)).set 2 (.int 14)).set 2 (.int 15)).set 2 (.int 16)) mt (u_5.2.1 0) p4 (px_sn (by decide) (px_sn (by decide) (px_sn (by decide) (px_sn (by decide) (px_sn (by decide) (px_sn (by decide) (px_sn (by decide) (px_sn (by decide) (px_sn (by decide) (px_sn (by decide) (px_sn (by decide) (px_sn (by decide) (px_sn (by decide) (px_sn (by decide) (px_sn (by decide) (px_sn (by decide) (px_sn (by decide) hmo_1))))))))))))))))) (px_ss (px_ss (px_ss (px_ss (px_ss (px_ss (px_ss (px_ss (px_ss (px_ss (px_ss (px_ss (px_ss (px_ss (px_ss (px_ss (px_sn (by decide) hmo_2)))))))))))))))))) (cwV 1 hg (px_gV q_6_92 q_6_94 q_p_58 q_1_15 q_6_96) rfl rfl rfl (by decide +kernel) ⟨Nat.le_of_ble_eq_true rfl, Nat.le_of_ble_eq_true rfl⟩) (px_preV hK hPc_6 hDc_6 (ci := 11) (q0 := 0) rfl rfl) rfl rfl hl.1 rfl (lv_room (Nat.le_of_ble_eq_true rfl)) dX11_feed_44 ⟨Nat.le_of_ble_eq_true rfl, Nat.le_of_ble_eq_true rfl⟩) hS (fun q _ h => hFc_6 q h) hFc_6 (fun u_6 t_6 H1 locs ht_6 hvm_6 hw_6 hB_6 hz_6 hk_6 hS => ?_)
  refine W.cs (cells' := 0) (slots' := 0) rfl rfl ?_
  obtain ⟨hP1_6, hD1_6⟩ := hB_6
  rw [ht_6] at hP1_6
  obtain ⟨hP, hD⟩ := va_join (wr := []) (w1 := [(mo, .inr (11, (((((((((((((((((((((fmo.set 0 (.int 0)).set 2 (.int 1)).set 2 (.int 2)).set 2 (.int 3)).set 2 (.int 4)).set 2 (.int 5)).set 2 (.int 6)).set 2 (.int 7)).set 2 (.int 8)).set 2 (.int 9)).set 2 (.int 10)).set 2 (.int 11)).set 2 (.int 12)).set 2 (.int 13)).set 2 (.int 14)).set 2 (.int 15)).set 2 (.int 16)).set 2 (.int 17)).set 2 (.int 18)).set 2 (.int 19)).set 2 (.int 20)))), (mt, .inl (y 0, 940, .inl (u_6.2.1 0)))]) hP hD [0, 1] [] rfl rfl (by decide) (by decide) hk_6 hFc_6 hP1_6 hD1_6
  generalize H1 = H at hP hS ⊢
  have hP : va_P D vwCl [(mo, .inr (11, (((((((((((((((((((((fmo.set 0 (.int 0)).set 2 (.int 1)).set 2 (.int 2)).set 2 (.int 3)).set 2 (.int 4)).set 2 (.int 5)).set 2 (.int 6)).set 2 (.int 7)).set 2 (.int 8)).set 2 (.int 9)).set 2 (.int 10)).set 2 (.int 11)).set 2 (.int 12)).set 2 (.int 13)).set 2 (.int 14)).set 2 (.int 15)).set 2 (.int 16)).set 2 (.int 17)).set 2 (.int 18)).set 2 (.int 19)).set 2 (.int 20)))), (mt, .inl (y 0, 940, .inl (u_6.2.1 0)))] H := hP
  have hD : va_D A [(mo, .inr (11, (((((((((((((((((((((fmo.set 0 (.int 0)).set 2 (.int 1)).set 2 (.int 2)).set 2 (.int 3)).set 2 (.int 4)).set 2 (.int 5)).set 2 (.int 6)).set 2 (.int 7)).set 2 (.int 8)).set 2 (.int 9)).set 2 (.int 10)).set 2 (.int 11)).set 2 (.int 12)).set 2 (.int 13)).set 2 (.int 14)).set 2 (.int 15)).set 2 (.int 16)).set 2 (.int 17)).set 2 (.int 18)).set 2 (.int 19)).set 2 (.int 20)))), (mt, .inl (y 0, 940, .inl (u_6.2.1 0)))] := hD
  refine lv_aload_n hx hb dX11_feed_47 rfl (lv_at hl 0 rfl) ?_
  refine va_get (D := D) (ci := 11) (v := .int 20) (C := RX11) (T := TX11) (N := 65) hx hb hg inGX11 hown hK hP 0 rfl rfl 2 (by decide) (hg _ q_6_128) (fun _ h9 => h9) (px_ss (px_ss (px_ss (px_ss (px_ss (px_ss (px_ss (px_ss (px_ss (px_ss (px_ss (px_ss (px_ss (px_ss (px_ss (px_ss (px_ss (px_ss (px_ss (px_ss (px_sn (by decide) hmo_2))))))))))))))))))))) dX11_feed_48 ?_
  exact W.iret (v := 20) hx hb hr (fun t ht hW => ⟨⟨_, (), rfl, rfl, trivial⟩, by subst hAe; exact hS.F ht⟩) (fun q h => by subst hAe; exact hS.2.2 q h) dX11_feed_51

set_option maxHeartbeats 4000000 in
set_option maxRecDepth 100000 in
theorem c_X11_throwsIf (l : Launch) (D : va_G) (y : Nat → ClassId) (sz : Nat) (mo : Nat) (fmo : List Value) (hmo_0 : fmo[0]? = some (.int 0)) : Met l yX11_throwsIf (px_w yX11_throwsIf cX11_throwsIf 2 (some .boolean)) ({ frames := 0, cells := 0, slots := 0, locals := 0 }) (va_Pc [.ref mo, .int 1] (px_P D y sz [(mo, .inr (11, fmo))])) (va_Qi (fun (r : Int32) (u : Unit) => r = 1) (fun (u : Unit) t => va_P D vwCl [(mo, .inr (11, (fmo.set 0 (.int 1))))] t.heap ∧ va_D (va_A [(mo, .inr (11, fmo))] sz) [(mo, .inr (11, (fmo.set 0 (.int 1))))]) (va_A [(mo, .inr (11, fmo))] sz)) 0 0 (va_A [(mo, .inr (11, fmo))] sz) := by
  refine Met.ofW (cc := cX11_throwsIf) (maxL := 2) (ret := (some .boolean)) (by decide) rfl ?_
  intro p e s m args below meth c s₁ B hml hv
  obtain ⟨rfl, hsz, hP, hK, hD0⟩ := hv
  have hx := B.exec
  have hb := B.bytes
  have hr := B.returns
  have hts := atoms_spec (ws := px_w yX11_throwsIf cX11_throwsIf 2 (some .boolean)) B.pre
  have hg : ∀ w ∈ gw, w.before [.ref mo, .int 1].toArray s = true := fun w h => hts w (List.mem_cons_of_mem _ h)
  have hown : s.vm.findClass RX11 = some m.cls := findClass_of_methodNamed B.named
  have hlocks := B.notSynchronized
  subst hsz
  have hD := hD0.self (sz := s.heap.size)
  generalize hAe : va_A [(mo, .inr (11, fmo))] s.heap.size = A at hD ⊢
  have hA : ∀ q : Nat, s.heap.size ≤ q → A q := fun q h => by rw [← hAe]; exact Or.inr h
  have hS : va_S A s.heap s.heap [] := va_S.rf
  have hP : va_P D vwCl [(mo, .inr (11, fmo))] s.heap := hP
  have hl := lv_entry ([.ref mo, .int 1]) (n := 2) (Nat.le_of_ble_eq_true rfl)
  rw [lg_entry_eq]
  generalize (lg_sl ([.ref mo, .int 1]) ++ List.replicate (2 - (lg_sl ([.ref mo, .int 1])).length) Slot.unset).toArray = ls at hl ⊢
  have hl : lv_has ls 2 [(0, .ref mo), (1, .int 1)] := hl
  refine lv_aload_n hx hb dX11_throwsIf_0 rfl (lv_at hl 0 rfl) ?_
  refine lv_iload_n hx hb dX11_throwsIf_1 rfl (lv_at hl 1 rfl) ?_
  refine lv_if_eq (tgt := 9) hx hb dX11_throwsIf_2 (by decide) (fun c_1 => absurd c_1 (by decide)) (fun _ => ?_)
  refine lv_iconst (v := 1) hx hb dX11_throwsIf_5 (by decide) ?_
  refine lv_goto (tgt := 10) hx hb dX11_throwsIf_6 (by decide) ?_
  refine va_put (D := D) (ci := 11) (v := .int 1) (ty := .int) (C := RX11) (T := TX11) (N := 65) hx hb hg inGX11 tyX11 tyX11_ok nmX11 hown hK hP hD hS 0 rfl rfl 0 (by decide) (hg _ q_6_126) (fun _ h9 => h9) rfl (by decide +kernel) rfl rfl (px_len hmo_0) dX11_throwsIf_10 (fun H locs hP hD hS => ?_)
  have hP : va_P D vwCl [(mo, .inr (11, (fmo.set 0 (.int 1))))] H := hP
  have hD : va_D A [(mo, .inr (11, (fmo.set 0 (.int 1))))] := hD
  refine lv_iload_n hx hb dX11_throwsIf_13 rfl (lv_at hl 1 rfl) ?_
  have hP9 := hP.sub (ws' := [(mo, .inr (11, (fmo.set 0 (.int 1))))]) [0] rfl
  have hD9 := hD.sub (ws' := [(mo, .inr (11, (fmo.set 0 (.int 1))))]) [0] (by decide) rfl
  exact W.zret (v := 1) hx hb hr (by decide) (fun t ht hW => ⟨⟨_, (), rfl, rfl, by rw [ht]; exact hP9, by subst hAe; exact hD9⟩, by subst hAe; exact hS.F ht⟩) (fun q h => by subst hAe; exact hS.2.2 q h) dX11_throwsIf_14

set_option maxHeartbeats 4000000 in
set_option maxRecDepth 100000 in
theorem c_X11_hand (l : Launch) (D : va_G) (y : Nat → ClassId) (sz : Nat) (mo : Nat) (fmo : List Value) (ms : Nat) (fms : Nat → Int32) (p0 : Int32) (p1 : Int32) (hmo_0 : fmo[0]? = some (.int 0)) (hmo_6 : fmo[6]? = some (.ref ms)) (hms_e1 : fms 1 = 0) : Met l yX11_hand (px_w yX11_hand cX11_hand 3 (some .int)) ({ frames := 2, cells := 0, slots := 0, locals := 43 }) (va_Pc [.ref mo, .int p0, .int p1] (px_P D y sz [(mo, .inr (11, fmo)), (ms, .inl (y 1, 765, .inl fms))])) (va_Qi (fun (r : Int32) (u : Unit) => r = 0) (fun (u : Unit) t => va_P D vwCl [(mo, .inr (11, (fmo.set 0 (.int 1)))), (ms, .inl (y 1, 765, .inl fms))] t.heap ∧ va_D (va_A [(mo, .inr (11, fmo)), (ms, .inl (y 1, 765, .inl fms))] sz) [(mo, .inr (11, (fmo.set 0 (.int 1)))), (ms, .inl (y 1, 765, .inl fms))]) (va_A [(mo, .inr (11, fmo)), (ms, .inl (y 1, 765, .inl fms))] sz)) 0 0 (va_A [(mo, .inr (11, fmo)), (ms, .inl (y 1, 765, .inl fms))] sz) := by
  refine Met.ofW (cc := cX11_hand) (maxL := 3) (ret := (some .int)) (by decide) rfl ?_
  intro p e s m args below meth c s₁ B hml hv
  obtain ⟨rfl, hsz, hP, hK, hD0⟩ := hv
  have hx := B.exec
  have hb := B.bytes
  have hr := B.returns
  have hts := atoms_spec (ws := px_w yX11_hand cX11_hand 3 (some .int)) B.pre
  have hg : ∀ w ∈ gw, w.before [.ref mo, .int p0, .int p1].toArray s = true := fun w h => hts w (List.mem_cons_of_mem _ h)
  have hown : s.vm.findClass RX11 = some m.cls := findClass_of_methodNamed B.named
  have hlocks := B.notSynchronized
  subst hsz
  have hD := hD0.self (sz := s.heap.size)
  generalize hAe : va_A [(mo, .inr (11, fmo)), (ms, .inl (y 1, 765, .inl fms))] s.heap.size = A at hD ⊢
  have hA : ∀ q : Nat, s.heap.size ≤ q → A q := fun q h => by rw [← hAe]; exact Or.inr h
  have hS : va_S A s.heap s.heap [] := va_S.rf
  have hP : va_P D vwCl [(mo, .inr (11, fmo)), (ms, .inl (y 1, 765, .inl fms))] s.heap := hP
  have hl := lv_entry ([.ref mo, .int p0, .int p1]) (n := 3) (Nat.le_of_ble_eq_true rfl)
  rw [lg_entry_eq]
  generalize (lg_sl ([.ref mo, .int p0, .int p1]) ++ List.replicate (3 - (lg_sl ([.ref mo, .int p0, .int p1])).length) Slot.unset).toArray = ls at hl ⊢
  have hl : lv_has ls 3 [(0, .ref mo), (1, .int p0), (2, .int p1)] := hl
  refine lv_aload_n hx hb dX11_hand_0 rfl (lv_at hl 0 rfl) ?_
  refine lv_aload_n hx hb dX11_hand_1 rfl (lv_at hl 0 rfl) ?_
  refine lv_iload_n hx hb dX11_hand_2 rfl (lv_at hl 1 rfl) ?_
  have hPc_1 := hP.sub (ws' := [(mo, .inr (11, fmo)), (ms, .inl (y 1, 765, .inl fms))]) [0, 1] rfl
  have hDc_1 := hD.sub (ws' := [(mo, .inr (11, fmo)), (ms, .inl (y 1, 765, .inl fms))]) [0, 1] (by decide) rfl
  refine vp_callSi (va_Run.run (va_runV (As := [.int p0]) (rest := [.ref mo]) ⟨hx, hb, hml, hown, hg⟩ (c_X11_isPerson l D y s.heap.size mo fmo ms fms p0 hmo_6 hms_e1) (cwV 1 hg (px_gV q_7_195 q_7_197 q_p_81 q_1_15 q_7_198) rfl rfl rfl (by decide +kernel) ⟨Nat.le_of_ble_eq_true rfl, Nat.le_of_ble_eq_true rfl⟩) (px_preV hK hPc_1 hDc_1 (ci := 11) (q0 := 0) rfl rfl) rfl rfl hl.1 rfl (lv_room (Nat.le_of_ble_eq_true rfl)) dX11_hand_3 ⟨Nat.le_of_ble_eq_true rfl, Nat.le_of_ble_eq_true rfl⟩)) (fun r_1 hw_1 => ?_)
  obtain rfl : r_1 = 0 := hw_1
  refine lv_if_eq (tgt := 17) hx hb dX11_hand_6 (by decide) (fun _ => ?_) (fun c_2 => absurd c_2 (by decide))
  refine lv_iconst (v := 1) hx hb dX11_hand_17 (by decide) ?_
  refine lv_goto (tgt := 22) hx hb dX11_hand_18 (by decide) ?_
  have hPc_3 := hP.sub (ws' := [(mo, .inr (11, fmo))]) [0] rfl
  have hDc_3 := hD.sub (ws' := [(mo, .inr (11, fmo))]) [0] (by decide) rfl
  have hFc_3 := va_free (wc := [(mo, .inr (11, fmo))]) hD hS hA [0] rfl
  refine va_calli (va_runV (As := [.int 1]) (rest := []) ⟨hx, hb, hml, hown, hg⟩ (c_X11_throwsIf l D y s.heap.size mo fmo hmo_0) (cwV 1 hg (px_gV q_7_203 q_7_205 q_p_83 q_1_15 q_7_206) rfl rfl rfl (by decide +kernel) ⟨Nat.le_of_ble_eq_true rfl, Nat.le_of_ble_eq_true rfl⟩) (px_preV hK hPc_3 hDc_3 (ci := 11) (q0 := 0) rfl rfl) rfl rfl hl.1 rfl (lv_room (Nat.le_of_ble_eq_true rfl)) dX11_hand_22 ⟨Nat.le_of_ble_eq_true rfl, Nat.le_of_ble_eq_true rfl⟩) hS (fun q _ h => hFc_3 q h) hFc_3 (fun r_3 u_3 t_3 H1 locs ht_3 hvm_3 hw_3 hB_3 hz_3 hk_3 hS => ?_)
  refine W.cs (cells' := 0) (slots' := 0) rfl rfl ?_
  obtain ⟨hP1_3, hD1_3⟩ := hB_3
  rw [ht_3] at hP1_3
  obtain ⟨hP, hD⟩ := va_join (wr := [(ms, .inl (y 1, 765, .inl fms))]) (w1 := [(mo, .inr (11, (fmo.set 0 (.int 1))))]) hP hD [0] [1] rfl rfl (by decide) (by decide) hk_3 hFc_3 hP1_3 hD1_3
  generalize H1 = H at hP hS ⊢
  have hP : va_P D vwCl [(ms, .inl (y 1, 765, .inl fms)), (mo, .inr (11, (fmo.set 0 (.int 1))))] H := hP
  have hD : va_D A [(ms, .inl (y 1, 765, .inl fms)), (mo, .inr (11, (fmo.set 0 (.int 1))))] := hD
  obtain rfl : r_3 = 1 := hw_3
  refine lv_if_eq (tgt := 32) hx hb dX11_hand_25 (by decide) (fun c_4 => absurd c_4 (by decide)) (fun _ => ?_)
  refine lv_iconst (v := 0) hx hb dX11_hand_28 (by decide) ?_
  refine lv_goto (tgt := 39) hx hb dX11_hand_29 (by decide) ?_
  have hP9 := hP.sub (ws' := [(mo, .inr (11, (fmo.set 0 (.int 1)))), (ms, .inl (y 1, 765, .inl fms))]) [1, 0] rfl
  have hD9 := hD.sub (ws' := [(mo, .inr (11, (fmo.set 0 (.int 1)))), (ms, .inl (y 1, 765, .inl fms))]) [1, 0] (by decide) rfl
  exact W.iret (v := 0) hx hb hr (fun t ht hW => ⟨⟨_, (), rfl, rfl, by rw [ht]; exact hP9, by subst hAe; exact hD9⟩, by subst hAe; exact hS.F ht⟩) (fun q h => by subst hAe; exact hS.2.2 q h) dX11_hand_39

set_option maxHeartbeats 4000000 in
set_option maxRecDepth 100000 in
theorem c_X11_odds (l : Launch) (D : va_G) (y : Nat → ClassId) (sz : Nat) (mo : Nat) (fmo : List Value) (ms : Nat) (fms : Nat → Int32) (p0 : Int32) (p1 : Int32) (p2 : Int32) (p3 : Int32) (hmo_0 : fmo[0]? = some (.int 0)) (hmo_6 : fmo[6]? = some (.ref ms)) (hms_e1 : fms 1 = 0) : Met l yX11_odds (px_w yX11_odds cX11_odds 7 (some .long)) ({ frames := 2, cells := 0, slots := 0, locals := 43 }) (va_Pc [.ref mo, .int p0, .int p1, .int p2, .int p3] (px_P D y sz [(mo, .inr (11, fmo)), (ms, .inl (y 1, 765, .inl fms))])) (va_Ql (fun (r : Int64) (u : Unit) => r = 0) (fun (u : Unit) t => va_P D vwCl [(mo, .inr (11, (fmo.set 0 (.int 1)))), (ms, .inl (y 1, 765, .inl fms))] t.heap ∧ va_D (va_A [(mo, .inr (11, fmo)), (ms, .inl (y 1, 765, .inl fms))] sz) [(mo, .inr (11, (fmo.set 0 (.int 1)))), (ms, .inl (y 1, 765, .inl fms))]) (va_A [(mo, .inr (11, fmo)), (ms, .inl (y 1, 765, .inl fms))] sz)) 0 0 (va_A [(mo, .inr (11, fmo)), (ms, .inl (y 1, 765, .inl fms))] sz) := by
  refine Met.ofW (cc := cX11_odds) (maxL := 7) (ret := (some .long)) (by decide) rfl ?_
  intro p e s m args below meth c s₁ B hml hv
  obtain ⟨rfl, hsz, hP, hK, hD0⟩ := hv
  have hx := B.exec
  have hb := B.bytes
  have hr := B.returns
  have hts := atoms_spec (ws := px_w yX11_odds cX11_odds 7 (some .long)) B.pre
  have hg : ∀ w ∈ gw, w.before [.ref mo, .int p0, .int p1, .int p2, .int p3].toArray s = true := fun w h => hts w (List.mem_cons_of_mem _ h)
  have hown : s.vm.findClass RX11 = some m.cls := findClass_of_methodNamed B.named
  have hlocks := B.notSynchronized
  subst hsz
  have hD := hD0.self (sz := s.heap.size)
  generalize hAe : va_A [(mo, .inr (11, fmo)), (ms, .inl (y 1, 765, .inl fms))] s.heap.size = A at hD ⊢
  have hA : ∀ q : Nat, s.heap.size ≤ q → A q := fun q h => by rw [← hAe]; exact Or.inr h
  have hS : va_S A s.heap s.heap [] := va_S.rf
  have hP : va_P D vwCl [(mo, .inr (11, fmo)), (ms, .inl (y 1, 765, .inl fms))] s.heap := hP
  have hl := lv_entry ([.ref mo, .int p0, .int p1, .int p2, .int p3]) (n := 7) (Nat.le_of_ble_eq_true rfl)
  rw [lg_entry_eq]
  generalize (lg_sl ([.ref mo, .int p0, .int p1, .int p2, .int p3]) ++ List.replicate (7 - (lg_sl ([.ref mo, .int p0, .int p1, .int p2, .int p3])).length) Slot.unset).toArray = ls at hl ⊢
  have hl : lv_has ls 7 [(0, .ref mo), (1, .int p0), (2, .int p1), (3, .int p2), (4, .int p3)] := hl
  refine lv_aload_n hx hb dX11_odds_0 rfl (lv_at hl 0 rfl) ?_
  refine lv_aload_n hx hb dX11_odds_1 rfl (lv_at hl 0 rfl) ?_
  refine lv_iload_n hx hb dX11_odds_2 rfl (lv_at hl 1 rfl) ?_
  have hPc_1 := hP.sub (ws' := [(mo, .inr (11, fmo)), (ms, .inl (y 1, 765, .inl fms))]) [0, 1] rfl
  have hDc_1 := hD.sub (ws' := [(mo, .inr (11, fmo)), (ms, .inl (y 1, 765, .inl fms))]) [0, 1] (by decide) rfl
  refine vp_callSi (va_Run.run (va_runV (As := [.int p0]) (rest := [.ref mo]) ⟨hx, hb, hml, hown, hg⟩ (c_X11_isPerson l D y s.heap.size mo fmo ms fms p0 hmo_6 hms_e1) (cwV 1 hg (px_gV q_7_195 q_7_197 q_p_81 q_1_15 q_7_198) rfl rfl rfl (by decide +kernel) ⟨Nat.le_of_ble_eq_true rfl, Nat.le_of_ble_eq_true rfl⟩) (px_preV hK hPc_1 hDc_1 (ci := 11) (q0 := 0) rfl rfl) rfl rfl hl.1 rfl (lv_room (Nat.le_of_ble_eq_true rfl)) dX11_odds_3 ⟨Nat.le_of_ble_eq_true rfl, Nat.le_of_ble_eq_true rfl⟩)) (fun r_1 hw_1 => ?_)
  obtain rfl : r_1 = 0 := hw_1
  refine lv_if_eq (tgt := 48) hx hb dX11_odds_6 (by decide) (fun _ => ?_) (fun c_2 => absurd c_2 (by decide))
  refine lv_iconst (v := 1) hx hb dX11_odds_48 (by decide) ?_
  refine lv_goto (tgt := 53) hx hb dX11_odds_49 (by decide) ?_
  have hPc_3 := hP.sub (ws' := [(mo, .inr (11, fmo))]) [0] rfl
  have hDc_3 := hD.sub (ws' := [(mo, .inr (11, fmo))]) [0] (by decide) rfl
  have hFc_3 := va_free (wc := [(mo, .inr (11, fmo))]) hD hS hA [0] rfl
  refine va_calli (va_runV (As := [.int 1]) (rest := []) ⟨hx, hb, hml, hown, hg⟩ (c_X11_throwsIf l D y s.heap.size mo fmo hmo_0) (cwV 1 hg (px_gV q_7_203 q_7_205 q_p_83 q_1_15 q_7_206) rfl rfl rfl (by decide +kernel) ⟨Nat.le_of_ble_eq_true rfl, Nat.le_of_ble_eq_true rfl⟩) (px_preV hK hPc_3 hDc_3 (ci := 11) (q0 := 0) rfl rfl) rfl rfl hl.1 rfl (lv_room (Nat.le_of_ble_eq_true rfl)) dX11_odds_53 ⟨Nat.le_of_ble_eq_true rfl, Nat.le_of_ble_eq_true rfl⟩) hS (fun q _ h => hFc_3 q h) hFc_3 (fun r_3 u_3 t_3 H1 locs ht_3 hvm_3 hw_3 hB_3 hz_3 hk_3 hS => ?_)
  refine W.cs (cells' := 0) (slots' := 0) rfl rfl ?_
  obtain ⟨hP1_3, hD1_3⟩ := hB_3
  rw [ht_3] at hP1_3
  obtain ⟨hP, hD⟩ := va_join (wr := [(ms, .inl (y 1, 765, .inl fms))]) (w1 := [(mo, .inr (11, (fmo.set 0 (.int 1))))]) hP hD [0] [1] rfl rfl (by decide) (by decide) hk_3 hFc_3 hP1_3 hD1_3
  generalize H1 = H at hP hS ⊢
  have hP : va_P D vwCl [(ms, .inl (y 1, 765, .inl fms)), (mo, .inr (11, (fmo.set 0 (.int 1))))] H := hP
  have hD : va_D A [(ms, .inl (y 1, 765, .inl fms)), (mo, .inr (11, (fmo.set 0 (.int 1))))] := hD
  obtain rfl : r_3 = 1 := hw_3
  refine lv_if_eq (tgt := 61) hx hb dX11_odds_56 (by decide) (fun c_4 => absurd c_4 (by decide)) (fun _ => ?_)
  refine lv_lconst (v := 0) hx hb dX11_odds_59 (by decide) ?_
  have hP9 := hP.sub (ws' := [(mo, .inr (11, (fmo.set 0 (.int 1)))), (ms, .inl (y 1, 765, .inl fms))]) [1, 0] rfl
  have hD9 := hD.sub (ws' := [(mo, .inr (11, (fmo.set 0 (.int 1)))), (ms, .inl (y 1, 765, .inl fms))]) [1, 0] (by decide) rfl
  exact W.lret (v := 0) hx hb hr (fun t ht hW => ⟨⟨_, (), rfl, rfl, by rw [ht]; exact hP9, by subst hAe; exact hD9⟩, by subst hAe; exact hS.F ht⟩) (fun q h => by subst hAe; exact hS.2.2 q h) dX11_odds_60

set_option maxHeartbeats 4000000 in
set_option maxRecDepth 100000 in
theorem c_X11_next_ (l : Launch) (D : va_G) (y : Nat → ClassId) (sz : Nat) (mo : Nat) (fmo : List Value) (ms : Nat) (fms : Nat → Int32) (p0 : Int32) (p1 : Int32) (p2 : Int32) (hmo_0 : fmo[0]? = some (.int 0)) (hmo_6 : fmo[6]? = some (.ref ms)) (hms_e1 : fms 1 = 0) : Met l yX11_next_ (px_w yX11_next_ cX11_next_ 11 (some .long)) ({ frames := 2, cells := 0, slots := 0, locals := 43 }) (va_Pc [.ref mo, .int p0, .int p1, .int p2] (px_P D y sz [(mo, .inr (11, fmo)), (ms, .inl (y 1, 765, .inl fms))])) (va_Ql (fun (r : Int64) (u : Unit) => r = 0) (fun (u : Unit) t => va_P D vwCl [(mo, .inr (11, (fmo.set 0 (.int 1)))), (ms, .inl (y 1, 765, .inl fms))] t.heap ∧ va_D (va_A [(mo, .inr (11, fmo)), (ms, .inl (y 1, 765, .inl fms))] sz) [(mo, .inr (11, (fmo.set 0 (.int 1)))), (ms, .inl (y 1, 765, .inl fms))]) (va_A [(mo, .inr (11, fmo)), (ms, .inl (y 1, 765, .inl fms))] sz)) 0 0 (va_A [(mo, .inr (11, fmo)), (ms, .inl (y 1, 765, .inl fms))] sz) := by
  refine Met.ofW (cc := cX11_next_) (maxL := 11) (ret := (some .long)) (by decide) rfl ?_
  intro p e s m args below meth c s₁ B hml hv
  obtain ⟨rfl, hsz, hP, hK, hD0⟩ := hv
  have hx := B.exec
  have hb := B.bytes
  have hr := B.returns
  have hts := atoms_spec (ws := px_w yX11_next_ cX11_next_ 11 (some .long)) B.pre
  have hg : ∀ w ∈ gw, w.before [.ref mo, .int p0, .int p1, .int p2].toArray s = true := fun w h => hts w (List.mem_cons_of_mem _ h)
  have hown : s.vm.findClass RX11 = some m.cls := findClass_of_methodNamed B.named
  have hlocks := B.notSynchronized
  subst hsz
  have hD := hD0.self (sz := s.heap.size)
  generalize hAe : va_A [(mo, .inr (11, fmo)), (ms, .inl (y 1, 765, .inl fms))] s.heap.size = A at hD ⊢
  have hA : ∀ q : Nat, s.heap.size ≤ q → A q := fun q h => by rw [← hAe]; exact Or.inr h
  have hS : va_S A s.heap s.heap [] := va_S.rf
  have hP : va_P D vwCl [(mo, .inr (11, fmo)), (ms, .inl (y 1, 765, .inl fms))] s.heap := hP
  have hl := lv_entry ([.ref mo, .int p0, .int p1, .int p2]) (n := 11) (Nat.le_of_ble_eq_true rfl)
  rw [lg_entry_eq]
  generalize (lg_sl ([.ref mo, .int p0, .int p1, .int p2]) ++ List.replicate (11 - (lg_sl ([.ref mo, .int p0, .int p1, .int p2])).length) Slot.unset).toArray = ls at hl ⊢
  have hl : lv_has ls 11 [(0, .ref mo), (1, .int p0), (2, .int p1), (3, .int p2)] := hl
  refine lv_aload_n hx hb dX11_next__0 rfl (lv_at hl 0 rfl) ?_
  refine lv_aload_n hx hb dX11_next__1 rfl (lv_at hl 0 rfl) ?_
  refine lv_iload_n hx hb dX11_next__2 rfl (lv_at hl 1 rfl) ?_
  have hPc_1 := hP.sub (ws' := [(mo, .inr (11, fmo)), (ms, .inl (y 1, 765, .inl fms))]) [0, 1] rfl
  have hDc_1 := hD.sub (ws' := [(mo, .inr (11, fmo)), (ms, .inl (y 1, 765, .inl fms))]) [0, 1] (by decide) rfl
  refine vp_callSi (va_Run.run (va_runV (As := [.int p0]) (rest := [.ref mo]) ⟨hx, hb, hml, hown, hg⟩ (c_X11_isPerson l D y s.heap.size mo fmo ms fms p0 hmo_6 hms_e1) (cwV 1 hg (px_gV q_7_195 q_7_197 q_p_81 q_1_15 q_7_198) rfl rfl rfl (by decide +kernel) ⟨Nat.le_of_ble_eq_true rfl, Nat.le_of_ble_eq_true rfl⟩) (px_preV hK hPc_1 hDc_1 (ci := 11) (q0 := 0) rfl rfl) rfl rfl hl.1 rfl (lv_room (Nat.le_of_ble_eq_true rfl)) dX11_next__3 ⟨Nat.le_of_ble_eq_true rfl, Nat.le_of_ble_eq_true rfl⟩)) (fun r_1 hw_1 => ?_)
  obtain rfl : r_1 = 0 := hw_1
  refine lv_if_eq (tgt := 44) hx hb dX11_next__6 (by decide) (fun _ => ?_) (fun c_2 => absurd c_2 (by decide))
  refine lv_iconst (v := 1) hx hb dX11_next__44 (by decide) ?_
  refine lv_goto (tgt := 49) hx hb dX11_next__45 (by decide) ?_
  have hPc_3 := hP.sub (ws' := [(mo, .inr (11, fmo))]) [0] rfl
  have hDc_3 := hD.sub (ws' := [(mo, .inr (11, fmo))]) [0] (by decide) rfl
  have hFc_3 := va_free (wc := [(mo, .inr (11, fmo))]) hD hS hA [0] rfl
  refine va_calli (va_runV (As := [.int 1]) (rest := []) ⟨hx, hb, hml, hown, hg⟩ (c_X11_throwsIf l D y s.heap.size mo fmo hmo_0) (cwV 1 hg (px_gV q_7_203 q_7_205 q_p_83 q_1_15 q_7_206) rfl rfl rfl (by decide +kernel) ⟨Nat.le_of_ble_eq_true rfl, Nat.le_of_ble_eq_true rfl⟩) (px_preV hK hPc_3 hDc_3 (ci := 11) (q0 := 0) rfl rfl) rfl rfl hl.1 rfl (lv_room (Nat.le_of_ble_eq_true rfl)) dX11_next__49 ⟨Nat.le_of_ble_eq_true rfl, Nat.le_of_ble_eq_true rfl⟩) hS (fun q _ h => hFc_3 q h) hFc_3 (fun r_3 u_3 t_3 H1 locs ht_3 hvm_3 hw_3 hB_3 hz_3 hk_3 hS => ?_)
  refine W.cs (cells' := 0) (slots' := 0) rfl rfl ?_
  obtain ⟨hP1_3, hD1_3⟩ := hB_3
  rw [ht_3] at hP1_3
  obtain ⟨hP, hD⟩ := va_join (wr := [(ms, .inl (y 1, 765, .inl fms))]) (w1 := [(mo, .inr (11, (fmo.set 0 (.int 1))))]) hP hD [0] [1] rfl rfl (by decide) (by decide) hk_3 hFc_3 hP1_3 hD1_3
  generalize H1 = H at hP hS ⊢
  have hP : va_P D vwCl [(ms, .inl (y 1, 765, .inl fms)), (mo, .inr (11, (fmo.set 0 (.int 1))))] H := hP
  have hD : va_D A [(ms, .inl (y 1, 765, .inl fms)), (mo, .inr (11, (fmo.set 0 (.int 1))))] := hD
  obtain rfl : r_3 = 1 := hw_3
  refine lv_if_eq (tgt := 57) hx hb dX11_next__52 (by decide) (fun c_4 => absurd c_4 (by decide)) (fun _ => ?_)
  refine lv_lconst (v := 0) hx hb dX11_next__55 (by decide) ?_
  have hP9 := hP.sub (ws' := [(mo, .inr (11, (fmo.set 0 (.int 1)))), (ms, .inl (y 1, 765, .inl fms))]) [1, 0] rfl
  have hD9 := hD.sub (ws' := [(mo, .inr (11, (fmo.set 0 (.int 1)))), (ms, .inl (y 1, 765, .inl fms))]) [1, 0] (by decide) rfl
  exact W.lret (v := 0) hx hb hr (fun t ht hW => ⟨⟨_, (), rfl, rfl, by rw [ht]; exact hP9, by subst hAe; exact hD9⟩, by subst hAe; exact hS.F ht⟩) (fun q h => by subst hAe; exact hS.2.2 q h) dX11_next__56
end
section
set_option maxHeartbeats 4000000 in
set_option maxRecDepth 100000 in
theorem c_X11_peek (l : Launch) (D : va_G) (y : Nat → ClassId) (sz : Nat) (mo : Nat) (fmo : List Value) (hmo_3 : fmo[3]? = some (.int 0)) (hmo_4 : fmo[4]? = some (.int 0)) : Met l yX11_peek (px_w yX11_peek cX11_peek 1 (some .int)) ({ frames := 0, cells := 0, slots := 0, locals := 0 }) (va_Pc [.ref mo] (px_P D y sz [(mo, .inr (11, fmo))])) (vp_Si (fun r : Int32 => r = (-1))) 0 0 (fun _ => False) := by
  refine Met.ofW (cc := cX11_peek) (maxL := 1) (ret := (some .int)) (by decide) rfl ?_
  intro p e s m args below meth c s₁ B hml hv
  obtain ⟨rfl, hsz, hP, hK, hD0⟩ := hv
  have hx := B.exec
  have hb := B.bytes
  have hr := B.returns
  have hts := atoms_spec (ws := px_w yX11_peek cX11_peek 1 (some .int)) B.pre
  have hg : ∀ w ∈ gw, w.before [.ref mo].toArray s = true := fun w h => hts w (List.mem_cons_of_mem _ h)
  have hown : s.vm.findClass RX11 = some m.cls := findClass_of_methodNamed B.named
  have hlocks := B.notSynchronized
  subst hsz
  have hD := hD0
  have hP : va_P D vwCl [(mo, .inr (11, fmo))] s.heap := hP
  have hl := lv_entry ([.ref mo]) (n := 1) (Nat.le_of_ble_eq_true rfl)
  rw [lg_entry_eq]
  generalize (lg_sl ([.ref mo]) ++ List.replicate (1 - (lg_sl ([.ref mo])).length) Slot.unset).toArray = ls at hl ⊢
  have hl : lv_has ls 1 [(0, .ref mo)] := hl
  refine lv_aload_n hx hb dX11_peek_0 rfl (lv_at hl 0 rfl) ?_
  refine va_get (D := D) (ci := 11) (v := .int 0) (C := RX11) (T := TX11) (N := 65) hx hb hg inGX11 hown hK hP 0 rfl rfl 4 (by decide) (hg _ q_6_130) (fun _ h9 => h9) hmo_4 dX11_peek_1 ?_
  refine lv_aload_n hx hb dX11_peek_4 rfl (lv_at hl 0 rfl) ?_
  refine va_get (D := D) (ci := 11) (v := .int 0) (C := RX11) (T := TX11) (N := 65) hx hb hg inGX11 hown hK hP 0 rfl rfl 3 (by decide) (hg _ q_6_129) (fun _ h9 => h9) hmo_3 dX11_peek_5 ?_
  refine lv_icmp_ge (tgt := 27) hx hb dX11_peek_8 (by decide) (fun _ => ?_) (fun c_1 => absurd c_1 (by decide))
  refine lv_iconst (v := (-1)) hx hb dX11_peek_27 (by decide) ?_
  exact W.iret (v := (-1)) hx hb hr (fun t ht hW => ⟨_, rfl, rfl, ht⟩) (fun q h => by cases h) dX11_peek_28

set_option maxHeartbeats 4000000 in
set_option maxRecDepth 100000 in
theorem c_X11_next_900 (l : Launch) (D : va_G) (y : Nat → ClassId) (sz : Nat) (mo : Nat) (fmo : List Value) (hmo_3 : fmo[3]? = some (.int 0)) (hmo_4 : fmo[4]? = some (.int 0)) (hmo_5 : fmo[5]? = some (.int 900)) (hmo_11 : fmo[11]? = some (.int 0)) (hmo_12 : fmo[12]? = some (.int 0)) (hmo_13 : fmo[13]? = some (.int 0)) : Met l yX11_next (px_w yX11_next cX11_next 4 none) ({ frames := 1, cells := 0, slots := 0, locals := 20 }) (va_Pc [.ref mo] (px_P D y sz [(mo, .inr (11, fmo))])) (va_Qv (fun (u : Unit) => True) (fun (u : Unit) t => va_P D vwCl [(mo, .inr (11, (((fmo.set 12 (.int 0)).set 13 (.int 0)).set 11 (.int 0))))] t.heap ∧ va_D (va_A [(mo, .inr (11, fmo))] sz) [(mo, .inr (11, (((fmo.set 12 (.int 0)).set 13 (.int 0)).set 11 (.int 0))))]) (va_A [(mo, .inr (11, fmo))] sz)) 0 0 (va_A [(mo, .inr (11, fmo))] sz) := by
  refine Met.ofW (cc := cX11_next) (maxL := 4) (ret := none) (by decide) rfl ?_
  intro p e s m args below meth c s₁ B hml hv
  obtain ⟨rfl, hsz, hP, hK, hD0⟩ := hv
  have hx := B.exec
  have hb := B.bytes
  have hr := B.returns
  have hts := atoms_spec (ws := px_w yX11_next cX11_next 4 none) B.pre
  have hg : ∀ w ∈ gw, w.before [.ref mo].toArray s = true := fun w h => hts w (List.mem_cons_of_mem _ h)
  have hown : s.vm.findClass RX11 = some m.cls := findClass_of_methodNamed B.named
  have hlocks := B.notSynchronized
  subst hsz
  have hD := hD0.self (sz := s.heap.size)
  generalize hAe : va_A [(mo, .inr (11, fmo))] s.heap.size = A at hD ⊢
  have hA : ∀ q : Nat, s.heap.size ≤ q → A q := fun q h => by rw [← hAe]; exact Or.inr h
  have hS : va_S A s.heap s.heap [] := va_S.rf
  have hP : va_P D vwCl [(mo, .inr (11, fmo))] s.heap := hP
  have hl := lv_entry ([.ref mo]) (n := 4) (Nat.le_of_ble_eq_true rfl)
  rw [lg_entry_eq]
  generalize (lg_sl ([.ref mo]) ++ List.replicate (4 - (lg_sl ([.ref mo])).length) Slot.unset).toArray = ls at hl ⊢
  have hl : lv_has ls 4 [(0, .ref mo)] := hl
  refine lv_aload_n hx hb dX11_next_0 rfl (lv_at hl 0 rfl) ?_
  have hPc_1 := hP.sub (ws' := [(mo, .inr (11, fmo))]) [0] rfl
  have hDc_1 := hD.sub (ws' := [(mo, .inr (11, fmo))]) [0] (by decide) rfl
  refine vp_callSi (va_Run.run (va_runV (As := []) (rest := []) ⟨hx, hb, hml, hown, hg⟩ (c_X11_peek l D y s.heap.size mo fmo hmo_3 hmo_4) (cwV 0 hg (px_gV q_7_95 q_7_97 q_p_61 q_1_15 q_7_98) rfl rfl rfl (by decide +kernel) ⟨Nat.le_of_ble_eq_true rfl, Nat.le_of_ble_eq_true rfl⟩) (px_preV hK hPc_1 hDc_1 (ci := 11) (q0 := 0) rfl rfl) rfl rfl hl.1 rfl (lv_room (Nat.le_of_ble_eq_true rfl)) dX11_next_1 ⟨Nat.le_of_ble_eq_true rfl, Nat.le_of_ble_eq_true rfl⟩)) (fun r_1 hw_1 => ?_)
  obtain rfl : r_1 = (-1) := hw_1
  refine lv_bipush (v := 32) hx hb dX11_next_4 (by decide) ?_
  refine lv_icmp_eq (tgt := 18) hx hb dX11_next_6 (by decide) (fun c_2 => absurd c_2 (by decide)) (fun _ => ?_)
  refine lv_aload_n hx hb dX11_next_9 rfl (lv_at hl 0 rfl) ?_
  have hPc_3 := hP.sub (ws' := [(mo, .inr (11, fmo))]) [0] rfl
  have hDc_3 := hD.sub (ws' := [(mo, .inr (11, fmo))]) [0] (by decide) rfl
  refine vp_callSi (va_Run.run (va_runV (As := []) (rest := []) ⟨hx, hb, hml, hown, hg⟩ (c_X11_peek l D y s.heap.size mo fmo hmo_3 hmo_4) (cwV 0 hg (px_gV q_7_95 q_7_97 q_p_61 q_1_15 q_7_98) rfl rfl rfl (by decide +kernel) ⟨Nat.le_of_ble_eq_true rfl, Nat.le_of_ble_eq_true rfl⟩) (px_preV hK hPc_3 hDc_3 (ci := 11) (q0 := 0) rfl rfl) rfl rfl hl.1 rfl (lv_room (Nat.le_of_ble_eq_true rfl)) dX11_next_10 ⟨Nat.le_of_ble_eq_true rfl, Nat.le_of_ble_eq_true rfl⟩)) (fun r_3 hw_3 => ?_)
  obtain rfl : r_3 = (-1) := hw_3
  refine lv_bipush (v := 10) hx hb dX11_next_13 (by decide) ?_
  refine lv_icmp_ne (tgt := 31) hx hb dX11_next_15 (by decide) (fun _ => ?_) (fun c_4 => absurd c_4 (by decide))
  refine lv_aload_n hx hb dX11_next_31 rfl (lv_at hl 0 rfl) ?_
  refine lv_aload_n hx hb dX11_next_32 rfl (lv_at hl 0 rfl) ?_
  refine va_get (D := D) (ci := 11) (v := .int 0) (C := RX11) (T := TX11) (N := 65) hx hb hg inGX11 hown hK hP 0 rfl rfl 4 (by decide) (hg _ q_6_130) (fun _ h9 => h9) hmo_4 dX11_next_33 ?_
  refine va_put (D := D) (ci := 11) (v := .int 0) (ty := .int) (C := RX11) (T := TX11) (N := 65) hx hb hg inGX11 tyX11 tyX11_ok nmX11 hown hK hP hD hS 0 rfl rfl 12 (by decide) (hg _ q_6_138) (fun _ h9 => h9) rfl (by decide +kernel) rfl rfl (px_len hmo_12) dX11_next_36 (fun H locs hP hD hS => ?_)
  have hP : va_P D vwCl [(mo, .inr (11, (fmo.set 12 (.int 0))))] H := hP
  have hD : va_D A [(mo, .inr (11, (fmo.set 12 (.int 0))))] := hD
  refine lv_aload_n hx hb dX11_next_39 rfl (lv_at hl 0 rfl) ?_
  refine lv_iconst (v := 0) hx hb dX11_next_40 (by decide) ?_
  refine va_put (D := D) (ci := 11) (v := .int 0) (ty := .int) (C := RX11) (T := TX11) (N := 65) hx hb hg inGX11 tyX11 tyX11_ok nmX11 hown hK hP hD hS 0 rfl rfl 13 (by decide) (hg _ q_6_139) (fun _ h9 => h9) rfl (by decide +kernel) rfl rfl (px_len (px_sn (by decide) hmo_13)) dX11_next_41 (fun H locs hP hD hS => ?_)
  have hP : va_P D vwCl [(mo, .inr (11, ((fmo.set 12 (.int 0)).set 13 (.int 0))))] H := hP
  have hD : va_D A [(mo, .inr (11, ((fmo.set 12 (.int 0)).set 13 (.int 0))))] := hD
  refine lv_aload_n hx hb dX11_next_44 rfl (lv_at hl 0 rfl) ?_
  refine va_get (D := D) (ci := 11) (v := .int 0) (C := RX11) (T := TX11) (N := 65) hx hb hg inGX11 hown hK hP 0 rfl rfl 3 (by decide) (hg _ q_6_129) (fun _ h9 => h9) (px_sn (by decide) (px_sn (by decide) hmo_3)) dX11_next_45 ?_
  refine lv_aload_n hx hb dX11_next_48 rfl (lv_at hl 0 rfl) ?_
  refine va_get (D := D) (ci := 11) (v := .int 900) (C := RX11) (T := TX11) (N := 65) hx hb hg inGX11 hown hK hP 0 rfl rfl 5 (by decide) (hg _ q_6_131) (fun _ h9 => h9) (px_sn (by decide) (px_sn (by decide) hmo_5)) dX11_next_49 ?_
  refine lv_icmp_le (tgt := 80) hx hb dX11_next_52 (by decide) (fun _ => ?_) (fun c_5 => absurd c_5 (by decide))
  refine lv_aload_n hx hb dX11_next_80 rfl (lv_at hl 0 rfl) ?_
  have hPc_6 := hP.sub (ws' := [(mo, .inr (11, ((fmo.set 12 (.int 0)).set 13 (.int 0))))]) [0] rfl
  have hDc_6 := hD.sub (ws' := [(mo, .inr (11, ((fmo.set 12 (.int 0)).set 13 (.int 0))))]) [0] (by decide) rfl
  refine vp_callSi (va_Run.run (va_runV (As := []) (rest := []) ⟨hx, hb, hml, hown, hg⟩ (c_X11_peek l D y H.size mo ((fmo.set 12 (.int 0)).set 13 (.int 0)) (px_sn (by decide) (px_sn (by decide) hmo_3)) (px_sn (by decide) (px_sn (by decide) hmo_4))) (cwV 0 hg (px_gV q_7_95 q_7_97 q_p_61 q_1_15 q_7_98) rfl rfl rfl (by decide +kernel) ⟨Nat.le_of_ble_eq_true rfl, Nat.le_of_ble_eq_true rfl⟩) (px_preV hK hPc_6 hDc_6 (ci := 11) (q0 := 0) rfl rfl) rfl rfl hl.1 rfl (lv_room (Nat.le_of_ble_eq_true rfl)) dX11_next_81 ⟨Nat.le_of_ble_eq_true rfl, Nat.le_of_ble_eq_true rfl⟩)) (fun r_6 hw_6 => ?_)
  obtain rfl : r_6 = (-1) := hw_6
  refine lv_istore_n (lv' := [(1, .int (-1)), (0, .ref mo)]) hx hb dX11_next_84 rfl hl (by decide) rfl (fun ls hl => ?_)
  refine lv_iload_n hx hb dX11_next_85 rfl (lv_at hl 0 rfl) ?_
  refine lv_if_ge (tgt := 95) hx hb dX11_next_86 (by decide) (fun c_7 => absurd c_7 (by decide)) (fun _ => ?_)
  refine lv_aload_n hx hb dX11_next_89 rfl (lv_at hl 1 rfl) ?_
  refine lv_iconst (v := 0) hx hb dX11_next_90 (by decide) ?_
  refine va_put (D := D) (ci := 11) (v := .int 0) (ty := .int) (C := RX11) (T := TX11) (N := 65) hx hb hg inGX11 tyX11 tyX11_ok nmX11 hown hK hP hD hS 0 rfl rfl 11 (by decide) (hg _ q_6_137) (fun _ h9 => h9) rfl (by decide +kernel) rfl rfl (px_len (px_sn (by decide) (px_sn (by decide) hmo_11))) dX11_next_91 (fun H locs hP hD hS => ?_)
  have hP : va_P D vwCl [(mo, .inr (11, (((fmo.set 12 (.int 0)).set 13 (.int 0)).set 11 (.int 0))))] H := hP
  have hD : va_D A [(mo, .inr (11, (((fmo.set 12 (.int 0)).set 13 (.int 0)).set 11 (.int 0))))] := hD
  have hP9 := hP.sub (ws' := [(mo, .inr (11, (((fmo.set 12 (.int 0)).set 13 (.int 0)).set 11 (.int 0))))]) [0] rfl
  have hD9 := hD.sub (ws' := [(mo, .inr (11, (((fmo.set 12 (.int 0)).set 13 (.int 0)).set 11 (.int 0))))]) [0] (by decide) rfl
  exact W.vret hx hb hr (fun t ht hW => ⟨⟨(), rfl, trivial, by rw [ht]; exact hP9, by subst hAe; exact hD9⟩, by subst hAe; exact hS.F ht⟩) (fun q h => by subst hAe; exact hS.2.2 q h) dX11_next_94

set_option maxHeartbeats 4000000 in
set_option maxRecDepth 100000 in
theorem c_X11_next_500 (l : Launch) (D : va_G) (y : Nat → ClassId) (sz : Nat) (mo : Nat) (fmo : List Value) (hmo_3 : fmo[3]? = some (.int 0)) (hmo_4 : fmo[4]? = some (.int 0)) (hmo_5 : fmo[5]? = some (.int 500)) (hmo_11 : fmo[11]? = some (.int 0)) (hmo_12 : fmo[12]? = some (.int 0)) (hmo_13 : fmo[13]? = some (.int 0)) : Met l yX11_next (px_w yX11_next cX11_next 4 none) ({ frames := 1, cells := 0, slots := 0, locals := 20 }) (va_Pc [.ref mo] (px_P D y sz [(mo, .inr (11, fmo))])) (va_Qv (fun (u : Unit) => True) (fun (u : Unit) t => va_P D vwCl [(mo, .inr (11, (((fmo.set 12 (.int 0)).set 13 (.int 0)).set 11 (.int 0))))] t.heap ∧ va_D (va_A [(mo, .inr (11, fmo))] sz) [(mo, .inr (11, (((fmo.set 12 (.int 0)).set 13 (.int 0)).set 11 (.int 0))))]) (va_A [(mo, .inr (11, fmo))] sz)) 0 0 (va_A [(mo, .inr (11, fmo))] sz) := by
  refine Met.ofW (cc := cX11_next) (maxL := 4) (ret := none) (by decide) rfl ?_
  intro p e s m args below meth c s₁ B hml hv
  obtain ⟨rfl, hsz, hP, hK, hD0⟩ := hv
  have hx := B.exec
  have hb := B.bytes
  have hr := B.returns
  have hts := atoms_spec (ws := px_w yX11_next cX11_next 4 none) B.pre
  have hg : ∀ w ∈ gw, w.before [.ref mo].toArray s = true := fun w h => hts w (List.mem_cons_of_mem _ h)
  have hown : s.vm.findClass RX11 = some m.cls := findClass_of_methodNamed B.named
  have hlocks := B.notSynchronized
  subst hsz
  have hD := hD0.self (sz := s.heap.size)
  generalize hAe : va_A [(mo, .inr (11, fmo))] s.heap.size = A at hD ⊢
  have hA : ∀ q : Nat, s.heap.size ≤ q → A q := fun q h => by rw [← hAe]; exact Or.inr h
  have hS : va_S A s.heap s.heap [] := va_S.rf
  have hP : va_P D vwCl [(mo, .inr (11, fmo))] s.heap := hP
  have hl := lv_entry ([.ref mo]) (n := 4) (Nat.le_of_ble_eq_true rfl)
  rw [lg_entry_eq]
  generalize (lg_sl ([.ref mo]) ++ List.replicate (4 - (lg_sl ([.ref mo])).length) Slot.unset).toArray = ls at hl ⊢
  have hl : lv_has ls 4 [(0, .ref mo)] := hl
  refine lv_aload_n hx hb dX11_next_0 rfl (lv_at hl 0 rfl) ?_
  have hPc_1 := hP.sub (ws' := [(mo, .inr (11, fmo))]) [0] rfl
  have hDc_1 := hD.sub (ws' := [(mo, .inr (11, fmo))]) [0] (by decide) rfl
  refine vp_callSi (va_Run.run (va_runV (As := []) (rest := []) ⟨hx, hb, hml, hown, hg⟩ (c_X11_peek l D y s.heap.size mo fmo hmo_3 hmo_4) (cwV 0 hg (px_gV q_7_95 q_7_97 q_p_61 q_1_15 q_7_98) rfl rfl rfl (by decide +kernel) ⟨Nat.le_of_ble_eq_true rfl, Nat.le_of_ble_eq_true rfl⟩) (px_preV hK hPc_1 hDc_1 (ci := 11) (q0 := 0) rfl rfl) rfl rfl hl.1 rfl (lv_room (Nat.le_of_ble_eq_true rfl)) dX11_next_1 ⟨Nat.le_of_ble_eq_true rfl, Nat.le_of_ble_eq_true rfl⟩)) (fun r_1 hw_1 => ?_)
  obtain rfl : r_1 = (-1) := hw_1
  refine lv_bipush (v := 32) hx hb dX11_next_4 (by decide) ?_
  refine lv_icmp_eq (tgt := 18) hx hb dX11_next_6 (by decide) (fun c_2 => absurd c_2 (by decide)) (fun _ => ?_)
  refine lv_aload_n hx hb dX11_next_9 rfl (lv_at hl 0 rfl) ?_
  have hPc_3 := hP.sub (ws' := [(mo, .inr (11, fmo))]) [0] rfl
  have hDc_3 := hD.sub (ws' := [(mo, .inr (11, fmo))]) [0] (by decide) rfl
  refine vp_callSi (va_Run.run (va_runV (As := []) (rest := []) ⟨hx, hb, hml, hown, hg⟩ (c_X11_peek l D y s.heap.size mo fmo hmo_3 hmo_4) (cwV 0 hg (px_gV q_7_95 q_7_97 q_p_61 q_1_15 q_7_98) rfl rfl rfl (by decide +kernel) ⟨Nat.le_of_ble_eq_true rfl, Nat.le_of_ble_eq_true rfl⟩) (px_preV hK hPc_3 hDc_3 (ci := 11) (q0 := 0) rfl rfl) rfl rfl hl.1 rfl (lv_room (Nat.le_of_ble_eq_true rfl)) dX11_next_10 ⟨Nat.le_of_ble_eq_true rfl, Nat.le_of_ble_eq_true rfl⟩)) (fun r_3 hw_3 => ?_)
  obtain rfl : r_3 = (-1) := hw_3
  refine lv_bipush (v := 10) hx hb dX11_next_13 (by decide) ?_
  refine lv_icmp_ne (tgt := 31) hx hb dX11_next_15 (by decide) (fun _ => ?_) (fun c_4 => absurd c_4 (by decide))
  refine lv_aload_n hx hb dX11_next_31 rfl (lv_at hl 0 rfl) ?_
  refine lv_aload_n hx hb dX11_next_32 rfl (lv_at hl 0 rfl) ?_
  refine va_get (D := D) (ci := 11) (v := .int 0) (C := RX11) (T := TX11) (N := 65) hx hb hg inGX11 hown hK hP 0 rfl rfl 4 (by decide) (hg _ q_6_130) (fun _ h9 => h9) hmo_4 dX11_next_33 ?_
  refine va_put (D := D) (ci := 11) (v := .int 0) (ty := .int) (C := RX11) (T := TX11) (N := 65) hx hb hg inGX11 tyX11 tyX11_ok nmX11 hown hK hP hD hS 0 rfl rfl 12 (by decide) (hg _ q_6_138) (fun _ h9 => h9) rfl (by decide +kernel) rfl rfl (px_len hmo_12) dX11_next_36 (fun H locs hP hD hS => ?_)
  have hP : va_P D vwCl [(mo, .inr (11, (fmo.set 12 (.int 0))))] H := hP
  have hD : va_D A [(mo, .inr (11, (fmo.set 12 (.int 0))))] := hD
  refine lv_aload_n hx hb dX11_next_39 rfl (lv_at hl 0 rfl) ?_
  refine lv_iconst (v := 0) hx hb dX11_next_40 (by decide) ?_
  refine va_put (D := D) (ci := 11) (v := .int 0) (ty := .int) (C := RX11) (T := TX11) (N := 65) hx hb hg inGX11 tyX11 tyX11_ok nmX11 hown hK hP hD hS 0 rfl rfl 13 (by decide) (hg _ q_6_139) (fun _ h9 => h9) rfl (by decide +kernel) rfl rfl (px_len (px_sn (by decide) hmo_13)) dX11_next_41 (fun H locs hP hD hS => ?_)
  have hP : va_P D vwCl [(mo, .inr (11, ((fmo.set 12 (.int 0)).set 13 (.int 0))))] H := hP
  have hD : va_D A [(mo, .inr (11, ((fmo.set 12 (.int 0)).set 13 (.int 0))))] := hD
  refine lv_aload_n hx hb dX11_next_44 rfl (lv_at hl 0 rfl) ?_
  refine va_get (D := D) (ci := 11) (v := .int 0) (C := RX11) (T := TX11) (N := 65) hx hb hg inGX11 hown hK hP 0 rfl rfl 3 (by decide) (hg _ q_6_129) (fun _ h9 => h9) (px_sn (by decide) (px_sn (by decide) hmo_3)) dX11_next_45 ?_
  refine lv_aload_n hx hb dX11_next_48 rfl (lv_at hl 0 rfl) ?_
  refine va_get (D := D) (ci := 11) (v := .int 500) (C := RX11) (T := TX11) (N := 65) hx hb hg inGX11 hown hK hP 0 rfl rfl 5 (by decide) (hg _ q_6_131) (fun _ h9 => h9) (px_sn (by decide) (px_sn (by decide) hmo_5)) dX11_next_49 ?_
  refine lv_icmp_le (tgt := 80) hx hb dX11_next_52 (by decide) (fun _ => ?_) (fun c_5 => absurd c_5 (by decide))
  refine lv_aload_n hx hb dX11_next_80 rfl (lv_at hl 0 rfl) ?_
  have hPc_6 := hP.sub (ws' := [(mo, .inr (11, ((fmo.set 12 (.int 0)).set 13 (.int 0))))]) [0] rfl
  have hDc_6 := hD.sub (ws' := [(mo, .inr (11, ((fmo.set 12 (.int 0)).set 13 (.int 0))))]) [0] (by decide) rfl
  refine vp_callSi (va_Run.run (va_runV (As := []) (rest := []) ⟨hx, hb, hml, hown, hg⟩ (c_X11_peek l D y H.size mo ((fmo.set 12 (.int 0)).set 13 (.int 0)) (px_sn (by decide) (px_sn (by decide) hmo_3)) (px_sn (by decide) (px_sn (by decide) hmo_4))) (cwV 0 hg (px_gV q_7_95 q_7_97 q_p_61 q_1_15 q_7_98) rfl rfl rfl (by decide +kernel) ⟨Nat.le_of_ble_eq_true rfl, Nat.le_of_ble_eq_true rfl⟩) (px_preV hK hPc_6 hDc_6 (ci := 11) (q0 := 0) rfl rfl) rfl rfl hl.1 rfl (lv_room (Nat.le_of_ble_eq_true rfl)) dX11_next_81 ⟨Nat.le_of_ble_eq_true rfl, Nat.le_of_ble_eq_true rfl⟩)) (fun r_6 hw_6 => ?_)
  obtain rfl : r_6 = (-1) := hw_6
  refine lv_istore_n (lv' := [(1, .int (-1)), (0, .ref mo)]) hx hb dX11_next_84 rfl hl (by decide) rfl (fun ls hl => ?_)
  refine lv_iload_n hx hb dX11_next_85 rfl (lv_at hl 0 rfl) ?_
  refine lv_if_ge (tgt := 95) hx hb dX11_next_86 (by decide) (fun c_7 => absurd c_7 (by decide)) (fun _ => ?_)
  refine lv_aload_n hx hb dX11_next_89 rfl (lv_at hl 1 rfl) ?_
  refine lv_iconst (v := 0) hx hb dX11_next_90 (by decide) ?_
  refine va_put (D := D) (ci := 11) (v := .int 0) (ty := .int) (C := RX11) (T := TX11) (N := 65) hx hb hg inGX11 tyX11 tyX11_ok nmX11 hown hK hP hD hS 0 rfl rfl 11 (by decide) (hg _ q_6_137) (fun _ h9 => h9) rfl (by decide +kernel) rfl rfl (px_len (px_sn (by decide) (px_sn (by decide) hmo_11))) dX11_next_91 (fun H locs hP hD hS => ?_)
  have hP : va_P D vwCl [(mo, .inr (11, (((fmo.set 12 (.int 0)).set 13 (.int 0)).set 11 (.int 0))))] H := hP
  have hD : va_D A [(mo, .inr (11, (((fmo.set 12 (.int 0)).set 13 (.int 0)).set 11 (.int 0))))] := hD
  have hP9 := hP.sub (ws' := [(mo, .inr (11, (((fmo.set 12 (.int 0)).set 13 (.int 0)).set 11 (.int 0))))]) [0] rfl
  have hD9 := hD.sub (ws' := [(mo, .inr (11, (((fmo.set 12 (.int 0)).set 13 (.int 0)).set 11 (.int 0))))]) [0] (by decide) rfl
  exact W.vret hx hb hr (fun t ht hW => ⟨⟨(), rfl, trivial, by rw [ht]; exact hP9, by subst hAe; exact hD9⟩, by subst hAe; exact hS.F ht⟩) (fun q h => by subst hAe; exact hS.2.2 q h) dX11_next_94

set_option maxHeartbeats 4000000 in
set_option maxRecDepth 100000 in
theorem c_X11_next_200 (l : Launch) (D : va_G) (y : Nat → ClassId) (sz : Nat) (mo : Nat) (fmo : List Value) (hmo_3 : fmo[3]? = some (.int 0)) (hmo_4 : fmo[4]? = some (.int 0)) (hmo_5 : fmo[5]? = some (.int 200)) (hmo_11 : fmo[11]? = some (.int 0)) (hmo_12 : fmo[12]? = some (.int 0)) (hmo_13 : fmo[13]? = some (.int 0)) : Met l yX11_next (px_w yX11_next cX11_next 4 none) ({ frames := 1, cells := 0, slots := 0, locals := 20 }) (va_Pc [.ref mo] (px_P D y sz [(mo, .inr (11, fmo))])) (va_Qv (fun (u : Unit) => True) (fun (u : Unit) t => va_P D vwCl [(mo, .inr (11, (((fmo.set 12 (.int 0)).set 13 (.int 0)).set 11 (.int 0))))] t.heap ∧ va_D (va_A [(mo, .inr (11, fmo))] sz) [(mo, .inr (11, (((fmo.set 12 (.int 0)).set 13 (.int 0)).set 11 (.int 0))))]) (va_A [(mo, .inr (11, fmo))] sz)) 0 0 (va_A [(mo, .inr (11, fmo))] sz) := by
  refine Met.ofW (cc := cX11_next) (maxL := 4) (ret := none) (by decide) rfl ?_
  intro p e s m args below meth c s₁ B hml hv
  obtain ⟨rfl, hsz, hP, hK, hD0⟩ := hv
  have hx := B.exec
  have hb := B.bytes
  have hr := B.returns
  have hts := atoms_spec (ws := px_w yX11_next cX11_next 4 none) B.pre
  have hg : ∀ w ∈ gw, w.before [.ref mo].toArray s = true := fun w h => hts w (List.mem_cons_of_mem _ h)
  have hown : s.vm.findClass RX11 = some m.cls := findClass_of_methodNamed B.named
  have hlocks := B.notSynchronized
  subst hsz
  have hD := hD0.self (sz := s.heap.size)
  generalize hAe : va_A [(mo, .inr (11, fmo))] s.heap.size = A at hD ⊢
  have hA : ∀ q : Nat, s.heap.size ≤ q → A q := fun q h => by rw [← hAe]; exact Or.inr h
  have hS : va_S A s.heap s.heap [] := va_S.rf
  have hP : va_P D vwCl [(mo, .inr (11, fmo))] s.heap := hP
  have hl := lv_entry ([.ref mo]) (n := 4) (Nat.le_of_ble_eq_true rfl)
  rw [lg_entry_eq]
  generalize (lg_sl ([.ref mo]) ++ List.replicate (4 - (lg_sl ([.ref mo])).length) Slot.unset).toArray = ls at hl ⊢
  have hl : lv_has ls 4 [(0, .ref mo)] := hl
  refine lv_aload_n hx hb dX11_next_0 rfl (lv_at hl 0 rfl) ?_
  have hPc_1 := hP.sub (ws' := [(mo, .inr (11, fmo))]) [0] rfl
  have hDc_1 := hD.sub (ws' := [(mo, .inr (11, fmo))]) [0] (by decide) rfl
  refine vp_callSi (va_Run.run (va_runV (As := []) (rest := []) ⟨hx, hb, hml, hown, hg⟩ (c_X11_peek l D y s.heap.size mo fmo hmo_3 hmo_4) (cwV 0 hg (px_gV q_7_95 q_7_97 q_p_61 q_1_15 q_7_98) rfl rfl rfl (by decide +kernel) ⟨Nat.le_of_ble_eq_true rfl, Nat.le_of_ble_eq_true rfl⟩) (px_preV hK hPc_1 hDc_1 (ci := 11) (q0 := 0) rfl rfl) rfl rfl hl.1 rfl (lv_room (Nat.le_of_ble_eq_true rfl)) dX11_next_1 ⟨Nat.le_of_ble_eq_true rfl, Nat.le_of_ble_eq_true rfl⟩)) (fun r_1 hw_1 => ?_)
  obtain rfl : r_1 = (-1) := hw_1
  refine lv_bipush (v := 32) hx hb dX11_next_4 (by decide) ?_
  refine lv_icmp_eq (tgt := 18) hx hb dX11_next_6 (by decide) (fun c_2 => absurd c_2 (by decide)) (fun _ => ?_)
  refine lv_aload_n hx hb dX11_next_9 rfl (lv_at hl 0 rfl) ?_
  have hPc_3 := hP.sub (ws' := [(mo, .inr (11, fmo))]) [0] rfl
  have hDc_3 := hD.sub (ws' := [(mo, .inr (11, fmo))]) [0] (by decide) rfl
  refine vp_callSi (va_Run.run (va_runV (As := []) (rest := []) ⟨hx, hb, hml, hown, hg⟩ (c_X11_peek l D y s.heap.size mo fmo hmo_3 hmo_4) (cwV 0 hg (px_gV q_7_95 q_7_97 q_p_61 q_1_15 q_7_98) rfl rfl rfl (by decide +kernel) ⟨Nat.le_of_ble_eq_true rfl, Nat.le_of_ble_eq_true rfl⟩) (px_preV hK hPc_3 hDc_3 (ci := 11) (q0 := 0) rfl rfl) rfl rfl hl.1 rfl (lv_room (Nat.le_of_ble_eq_true rfl)) dX11_next_10 ⟨Nat.le_of_ble_eq_true rfl, Nat.le_of_ble_eq_true rfl⟩)) (fun r_3 hw_3 => ?_)
  obtain rfl : r_3 = (-1) := hw_3
  refine lv_bipush (v := 10) hx hb dX11_next_13 (by decide) ?_
  refine lv_icmp_ne (tgt := 31) hx hb dX11_next_15 (by decide) (fun _ => ?_) (fun c_4 => absurd c_4 (by decide))
  refine lv_aload_n hx hb dX11_next_31 rfl (lv_at hl 0 rfl) ?_
  refine lv_aload_n hx hb dX11_next_32 rfl (lv_at hl 0 rfl) ?_
  refine va_get (D := D) (ci := 11) (v := .int 0) (C := RX11) (T := TX11) (N := 65) hx hb hg inGX11 hown hK hP 0 rfl rfl 4 (by decide) (hg _ q_6_130) (fun _ h9 => h9) hmo_4 dX11_next_33 ?_
  refine va_put (D := D) (ci := 11) (v := .int 0) (ty := .int) (C := RX11) (T := TX11) (N := 65) hx hb hg inGX11 tyX11 tyX11_ok nmX11 hown hK hP hD hS 0 rfl rfl 12 (by decide) (hg _ q_6_138) (fun _ h9 => h9) rfl (by decide +kernel) rfl rfl (px_len hmo_12) dX11_next_36 (fun H locs hP hD hS => ?_)
  have hP : va_P D vwCl [(mo, .inr (11, (fmo.set 12 (.int 0))))] H := hP
  have hD : va_D A [(mo, .inr (11, (fmo.set 12 (.int 0))))] := hD
  refine lv_aload_n hx hb dX11_next_39 rfl (lv_at hl 0 rfl) ?_
  refine lv_iconst (v := 0) hx hb dX11_next_40 (by decide) ?_
  refine va_put (D := D) (ci := 11) (v := .int 0) (ty := .int) (C := RX11) (T := TX11) (N := 65) hx hb hg inGX11 tyX11 tyX11_ok nmX11 hown hK hP hD hS 0 rfl rfl 13 (by decide) (hg _ q_6_139) (fun _ h9 => h9) rfl (by decide +kernel) rfl rfl (px_len (px_sn (by decide) hmo_13)) dX11_next_41 (fun H locs hP hD hS => ?_)
  have hP : va_P D vwCl [(mo, .inr (11, ((fmo.set 12 (.int 0)).set 13 (.int 0))))] H := hP
  have hD : va_D A [(mo, .inr (11, ((fmo.set 12 (.int 0)).set 13 (.int 0))))] := hD
  refine lv_aload_n hx hb dX11_next_44 rfl (lv_at hl 0 rfl) ?_
  refine va_get (D := D) (ci := 11) (v := .int 0) (C := RX11) (T := TX11) (N := 65) hx hb hg inGX11 hown hK hP 0 rfl rfl 3 (by decide) (hg _ q_6_129) (fun _ h9 => h9) (px_sn (by decide) (px_sn (by decide) hmo_3)) dX11_next_45 ?_
  refine lv_aload_n hx hb dX11_next_48 rfl (lv_at hl 0 rfl) ?_
  refine va_get (D := D) (ci := 11) (v := .int 200) (C := RX11) (T := TX11) (N := 65) hx hb hg inGX11 hown hK hP 0 rfl rfl 5 (by decide) (hg _ q_6_131) (fun _ h9 => h9) (px_sn (by decide) (px_sn (by decide) hmo_5)) dX11_next_49 ?_
  refine lv_icmp_le (tgt := 80) hx hb dX11_next_52 (by decide) (fun _ => ?_) (fun c_5 => absurd c_5 (by decide))
  refine lv_aload_n hx hb dX11_next_80 rfl (lv_at hl 0 rfl) ?_
  have hPc_6 := hP.sub (ws' := [(mo, .inr (11, ((fmo.set 12 (.int 0)).set 13 (.int 0))))]) [0] rfl
  have hDc_6 := hD.sub (ws' := [(mo, .inr (11, ((fmo.set 12 (.int 0)).set 13 (.int 0))))]) [0] (by decide) rfl
  refine vp_callSi (va_Run.run (va_runV (As := []) (rest := []) ⟨hx, hb, hml, hown, hg⟩ (c_X11_peek l D y H.size mo ((fmo.set 12 (.int 0)).set 13 (.int 0)) (px_sn (by decide) (px_sn (by decide) hmo_3)) (px_sn (by decide) (px_sn (by decide) hmo_4))) (cwV 0 hg (px_gV q_7_95 q_7_97 q_p_61 q_1_15 q_7_98) rfl rfl rfl (by decide +kernel) ⟨Nat.le_of_ble_eq_true rfl, Nat.le_of_ble_eq_true rfl⟩) (px_preV hK hPc_6 hDc_6 (ci := 11) (q0 := 0) rfl rfl) rfl rfl hl.1 rfl (lv_room (Nat.le_of_ble_eq_true rfl)) dX11_next_81 ⟨Nat.le_of_ble_eq_true rfl, Nat.le_of_ble_eq_true rfl⟩)) (fun r_6 hw_6 => ?_)
  obtain rfl : r_6 = (-1) := hw_6
  refine lv_istore_n (lv' := [(1, .int (-1)), (0, .ref mo)]) hx hb dX11_next_84 rfl hl (by decide) rfl (fun ls hl => ?_)
  refine lv_iload_n hx hb dX11_next_85 rfl (lv_at hl 0 rfl) ?_
  refine lv_if_ge (tgt := 95) hx hb dX11_next_86 (by decide) (fun c_7 => absurd c_7 (by decide)) (fun _ => ?_)
  refine lv_aload_n hx hb dX11_next_89 rfl (lv_at hl 1 rfl) ?_
  refine lv_iconst (v := 0) hx hb dX11_next_90 (by decide) ?_
  refine va_put (D := D) (ci := 11) (v := .int 0) (ty := .int) (C := RX11) (T := TX11) (N := 65) hx hb hg inGX11 tyX11 tyX11_ok nmX11 hown hK hP hD hS 0 rfl rfl 11 (by decide) (hg _ q_6_137) (fun _ h9 => h9) rfl (by decide +kernel) rfl rfl (px_len (px_sn (by decide) (px_sn (by decide) hmo_11))) dX11_next_91 (fun H locs hP hD hS => ?_)
  have hP : va_P D vwCl [(mo, .inr (11, (((fmo.set 12 (.int 0)).set 13 (.int 0)).set 11 (.int 0))))] H := hP
  have hD : va_D A [(mo, .inr (11, (((fmo.set 12 (.int 0)).set 13 (.int 0)).set 11 (.int 0))))] := hD
  have hP9 := hP.sub (ws' := [(mo, .inr (11, (((fmo.set 12 (.int 0)).set 13 (.int 0)).set 11 (.int 0))))]) [0] rfl
  have hD9 := hD.sub (ws' := [(mo, .inr (11, (((fmo.set 12 (.int 0)).set 13 (.int 0)).set 11 (.int 0))))]) [0] (by decide) rfl
  exact W.vret hx hb hr (fun t ht hW => ⟨⟨(), rfl, trivial, by rw [ht]; exact hP9, by subst hAe; exact hD9⟩, by subst hAe; exact hS.F ht⟩) (fun q h => by subst hAe; exact hS.2.2 q h) dX11_next_94

set_option maxHeartbeats 4000000 in
set_option maxRecDepth 100000 in
theorem c_X11_isWord (l : Launch) (D : va_G) (y : Nat → ClassId) (sz : Nat) (mo : Nat) (fmo : List Value) (p0 : Int64) (hmo_11 : fmo[11]? = some (.int 0)) : Met l yX11_isWord (px_w yX11_isWord cX11_isWord 3 (some .boolean)) ({ frames := 0, cells := 0, slots := 0, locals := 0 }) (va_Pc [.ref mo, .long p0] (px_P D y sz [(mo, .inr (11, fmo))])) (vp_Si (fun r : Int32 => r = 0)) 0 0 (fun _ => False) := by
  refine Met.ofW (cc := cX11_isWord) (maxL := 3) (ret := (some .boolean)) (by decide) rfl ?_
  intro p e s m args below meth c s₁ B hml hv
  obtain ⟨rfl, hsz, hP, hK, hD0⟩ := hv
  have hx := B.exec
  have hb := B.bytes
  have hr := B.returns
  have hts := atoms_spec (ws := px_w yX11_isWord cX11_isWord 3 (some .boolean)) B.pre
  have hg : ∀ w ∈ gw, w.before [.ref mo, .long p0].toArray s = true := fun w h => hts w (List.mem_cons_of_mem _ h)
  have hown : s.vm.findClass RX11 = some m.cls := findClass_of_methodNamed B.named
  have hlocks := B.notSynchronized
  subst hsz
  have hD := hD0
  have hP : va_P D vwCl [(mo, .inr (11, fmo))] s.heap := hP
  have hl := lv_entry ([.ref mo, .long p0]) (n := 3) (Nat.le_of_ble_eq_true rfl)
  rw [lg_entry_eq]
  generalize (lg_sl ([.ref mo, .long p0]) ++ List.replicate (3 - (lg_sl ([.ref mo, .long p0])).length) Slot.unset).toArray = ls at hl ⊢
  have hl : lv_has ls 3 [(0, .ref mo), (1, .long p0)] := hl
  refine lv_aload_n hx hb dX11_isWord_0 rfl (lv_at hl 0 rfl) ?_
  refine va_get (D := D) (ci := 11) (v := .int 0) (C := RX11) (T := TX11) (N := 65) hx hb hg inGX11 hown hK hP 0 rfl rfl 11 (by decide) (hg _ q_6_137) (fun _ h9 => h9) hmo_11 dX11_isWord_1 ?_
  refine lv_iconst (v := 1) hx hb dX11_isWord_4 (by decide) ?_
  refine lv_icmp_ne (tgt := 21) hx hb dX11_isWord_5 (by decide) (fun _ => ?_) (fun c_1 => absurd c_1 (by decide))
  refine lv_iconst (v := 0) hx hb dX11_isWord_21 (by decide) ?_
  exact W.zret (v := 0) hx hb hr (by decide) (fun t ht hW => ⟨_, rfl, rfl, ht⟩) (fun q h => by cases h) dX11_isWord_22

set_option maxHeartbeats 4000000 in
set_option maxRecDepth 100000 in
theorem c_X11_isSign (l : Launch) (D : va_G) (y : Nat → ClassId) (sz : Nat) (mo : Nat) (fmo : List Value) (p0 : Int32) (hmo_11 : fmo[11]? = some (.int 0)) : Met l yX11_isSign (px_w yX11_isSign cX11_isSign 2 (some .boolean)) ({ frames := 0, cells := 0, slots := 0, locals := 0 }) (va_Pc [.ref mo, .int p0] (px_P D y sz [(mo, .inr (11, fmo))])) (vp_Si (fun r : Int32 => r = 0)) 0 0 (fun _ => False) := by
  refine Met.ofW (cc := cX11_isSign) (maxL := 2) (ret := (some .boolean)) (by decide) rfl ?_
  intro p e s m args below meth c s₁ B hml hv
  obtain ⟨rfl, hsz, hP, hK, hD0⟩ := hv
  have hx := B.exec
  have hb := B.bytes
  have hr := B.returns
  have hts := atoms_spec (ws := px_w yX11_isSign cX11_isSign 2 (some .boolean)) B.pre
  have hg : ∀ w ∈ gw, w.before [.ref mo, .int p0].toArray s = true := fun w h => hts w (List.mem_cons_of_mem _ h)
  have hown : s.vm.findClass RX11 = some m.cls := findClass_of_methodNamed B.named
  have hlocks := B.notSynchronized
  subst hsz
  have hD := hD0
  have hP : va_P D vwCl [(mo, .inr (11, fmo))] s.heap := hP
  have hl := lv_entry ([.ref mo, .int p0]) (n := 2) (Nat.le_of_ble_eq_true rfl)
  rw [lg_entry_eq]
  generalize (lg_sl ([.ref mo, .int p0]) ++ List.replicate (2 - (lg_sl ([.ref mo, .int p0])).length) Slot.unset).toArray = ls at hl ⊢
  have hl : lv_has ls 2 [(0, .ref mo), (1, .int p0)] := hl
  refine lv_aload_n hx hb dX11_isSign_0 rfl (lv_at hl 0 rfl) ?_
  refine va_get (D := D) (ci := 11) (v := .int 0) (C := RX11) (T := TX11) (N := 65) hx hb hg inGX11 hown hK hP 0 rfl rfl 11 (by decide) (hg _ q_6_137) (fun _ h9 => h9) hmo_11 dX11_isSign_1 ?_
  refine lv_iconst (v := 3) hx hb dX11_isSign_4 (by decide) ?_
  refine lv_icmp_ne (tgt := 20) hx hb dX11_isSign_5 (by decide) (fun _ => ?_) (fun c_1 => absurd c_1 (by decide))
  refine lv_iconst (v := 0) hx hb dX11_isSign_20 (by decide) ?_
  exact W.zret (v := 0) hx hb hr (by decide) (fun t ht hW => ⟨_, rfl, rfl, ht⟩) (fun q h => by cases h) dX11_isSign_21

set_option maxHeartbeats 4000000 in
set_option maxRecDepth 100000 in
theorem c_X11_leafOf (l : Launch) (D : va_G) (y : Nat → ClassId) (sz : Nat) (mo : Nat) (fmo : List Value) (hmo_11 : fmo[11]? = some (.int 0)) : Met l yX11_leafOf (px_w yX11_leafOf cX11_leafOf 1 (some .int)) ({ frames := 1, cells := 0, slots := 0, locals := 22 }) (va_Pc [.ref mo] (px_P D y sz [(mo, .inr (11, fmo))])) (vp_Si (fun r : Int32 => r = (-1))) 0 0 (fun _ => False) := by
  refine Met.ofW (cc := cX11_leafOf) (maxL := 1) (ret := (some .int)) (by decide) rfl ?_
  intro p e s m args below meth c s₁ B hml hv
  obtain ⟨rfl, hsz, hP, hK, hD0⟩ := hv
  have hx := B.exec
  have hb := B.bytes
  have hr := B.returns
  have hts := atoms_spec (ws := px_w yX11_leafOf cX11_leafOf 1 (some .int)) B.pre
  have hg : ∀ w ∈ gw, w.before [.ref mo].toArray s = true := fun w h => hts w (List.mem_cons_of_mem _ h)
  have hown : s.vm.findClass RX11 = some m.cls := findClass_of_methodNamed B.named
  have hlocks := B.notSynchronized
  subst hsz
  have hD := hD0
  have hP : va_P D vwCl [(mo, .inr (11, fmo))] s.heap := hP
  have hl := lv_entry ([.ref mo]) (n := 1) (Nat.le_of_ble_eq_true rfl)
  rw [lg_entry_eq]
  generalize (lg_sl ([.ref mo]) ++ List.replicate (1 - (lg_sl ([.ref mo])).length) Slot.unset).toArray = ls at hl ⊢
  have hl : lv_has ls 1 [(0, .ref mo)] := hl
  refine lv_aload_n hx hb dX11_leafOf_0 rfl (lv_at hl 0 rfl) ?_
  refine lv_ldc2 (v := 1651470187) hx hb hown (hg _ q_6_119) dX11_leafOf_1 ?_
  have hPc_1 := hP.sub (ws' := [(mo, .inr (11, fmo))]) [0] rfl
  have hDc_1 := hD.sub (ws' := [(mo, .inr (11, fmo))]) [0] (by decide) rfl
  refine vp_callSi (va_Run.run (va_runV (As := [.long 1651470187]) (rest := []) ⟨hx, hb, hml, hown, hg⟩ (c_X11_isWord l D y s.heap.size mo fmo 1651470187 hmo_11) (cwV 1 hg (px_gV q_7_109 q_7_111 q_p_63 q_1_15 q_7_112) rfl rfl rfl (by decide +kernel) ⟨Nat.le_of_ble_eq_true rfl, Nat.le_of_ble_eq_true rfl⟩) (px_preV hK hPc_1 hDc_1 (ci := 11) (q0 := 0) rfl rfl) rfl rfl hl.1 rfl (lv_room (Nat.le_of_ble_eq_true rfl)) dX11_leafOf_4 ⟨Nat.le_of_ble_eq_true rfl, Nat.le_of_ble_eq_true rfl⟩)) (fun r_1 hw_1 => ?_)
  obtain rfl : r_1 = 0 := hw_1
  refine lv_if_eq (tgt := 14) hx hb dX11_leafOf_7 (by decide) (fun _ => ?_) (fun c_2 => absurd c_2 (by decide))
  refine lv_aload_n hx hb dX11_leafOf_14 rfl (lv_at hl 0 rfl) ?_
  refine lv_ldc2 (v := 461414299502) hx hb hown (hg _ q_6_120) dX11_leafOf_15 ?_
  have hPc_3 := hP.sub (ws' := [(mo, .inr (11, fmo))]) [0] rfl
  have hDc_3 := hD.sub (ws' := [(mo, .inr (11, fmo))]) [0] (by decide) rfl
  refine vp_callSi (va_Run.run (va_runV (As := [.long 461414299502]) (rest := []) ⟨hx, hb, hml, hown, hg⟩ (c_X11_isWord l D y s.heap.size mo fmo 461414299502 hmo_11) (cwV 1 hg (px_gV q_7_109 q_7_111 q_p_63 q_1_15 q_7_112) rfl rfl rfl (by decide +kernel) ⟨Nat.le_of_ble_eq_true rfl, Nat.le_of_ble_eq_true rfl⟩) (px_preV hK hPc_3 hDc_3 (ci := 11) (q0 := 0) rfl rfl) rfl rfl hl.1 rfl (lv_room (Nat.le_of_ble_eq_true rfl)) dX11_leafOf_18 ⟨Nat.le_of_ble_eq_true rfl, Nat.le_of_ble_eq_true rfl⟩)) (fun r_3 hw_3 => ?_)
  obtain rfl : r_3 = 0 := hw_3
  refine lv_if_eq (tgt := 28) hx hb dX11_leafOf_21 (by decide) (fun _ => ?_) (fun c_4 => absurd c_4 (by decide))
  refine lv_aload_n hx hb dX11_leafOf_28 rfl (lv_at hl 0 rfl) ?_
  refine lv_ldc2 (v := 1751477348) hx hb hown (hg _ q_6_121) dX11_leafOf_29 ?_
  have hPc_5 := hP.sub (ws' := [(mo, .inr (11, fmo))]) [0] rfl
  have hDc_5 := hD.sub (ws' := [(mo, .inr (11, fmo))]) [0] (by decide) rfl
  refine vp_callSi (va_Run.run (va_runV (As := [.long 1751477348]) (rest := []) ⟨hx, hb, hml, hown, hg⟩ (c_X11_isWord l D y s.heap.size mo fmo 1751477348 hmo_11) (cwV 1 hg (px_gV q_7_109 q_7_111 q_p_63 q_1_15 q_7_112) rfl rfl rfl (by decide +kernel) ⟨Nat.le_of_ble_eq_true rfl, Nat.le_of_ble_eq_true rfl⟩) (px_preV hK hPc_5 hDc_5 (ci := 11) (q0 := 0) rfl rfl) rfl rfl hl.1 rfl (lv_room (Nat.le_of_ble_eq_true rfl)) dX11_leafOf_32 ⟨Nat.le_of_ble_eq_true rfl, Nat.le_of_ble_eq_true rfl⟩)) (fun r_5 hw_5 => ?_)
  obtain rfl : r_5 = 0 := hw_5
  refine lv_if_eq (tgt := 42) hx hb dX11_leafOf_35 (by decide) (fun _ => ?_) (fun c_6 => absurd c_6 (by decide))
  refine lv_aload_n hx hb dX11_leafOf_42 rfl (lv_at hl 0 rfl) ?_
  refine lv_ldc2 (v := 448311223411) hx hb hown (hg _ q_6_122) dX11_leafOf_43 ?_
  have hPc_7 := hP.sub (ws' := [(mo, .inr (11, fmo))]) [0] rfl
  have hDc_7 := hD.sub (ws' := [(mo, .inr (11, fmo))]) [0] (by decide) rfl
  refine vp_callSi (va_Run.run (va_runV (As := [.long 448311223411]) (rest := []) ⟨hx, hb, hml, hown, hg⟩ (c_X11_isWord l D y s.heap.size mo fmo 448311223411 hmo_11) (cwV 1 hg (px_gV q_7_109 q_7_111 q_p_63 q_1_15 q_7_112) rfl rfl rfl (by decide +kernel) ⟨Nat.le_of_ble_eq_true rfl, Nat.le_of_ble_eq_true rfl⟩) (px_preV hK hPc_7 hDc_7 (ci := 11) (q0 := 0) rfl rfl) rfl rfl hl.1 rfl (lv_room (Nat.le_of_ble_eq_true rfl)) dX11_leafOf_46 ⟨Nat.le_of_ble_eq_true rfl, Nat.le_of_ble_eq_true rfl⟩)) (fun r_7 hw_7 => ?_)
  obtain rfl : r_7 = 0 := hw_7
  refine lv_if_eq (tgt := 56) hx hb dX11_leafOf_49 (by decide) (fun _ => ?_) (fun c_8 => absurd c_8 (by decide))
  refine lv_aload_n hx hb dX11_leafOf_56 rfl (lv_at hl 0 rfl) ?_
  refine lv_ldc2 (v := 114784635741540) hx hb hown (hg _ q_6_123) dX11_leafOf_57 ?_
  have hPc_9 := hP.sub (ws' := [(mo, .inr (11, fmo))]) [0] rfl
  have hDc_9 := hD.sub (ws' := [(mo, .inr (11, fmo))]) [0] (by decide) rfl
  refine vp_callSi (va_Run.run (va_runV (As := [.long 114784635741540]) (rest := []) ⟨hx, hb, hml, hown, hg⟩ (c_X11_isWord l D y s.heap.size mo fmo 114784635741540 hmo_11) (cwV 1 hg (px_gV q_7_109 q_7_111 q_p_63 q_1_15 q_7_112) rfl rfl rfl (by decide +kernel) ⟨Nat.le_of_ble_eq_true rfl, Nat.le_of_ble_eq_true rfl⟩) (px_preV hK hPc_9 hDc_9 (ci := 11) (q0 := 0) rfl rfl) rfl rfl hl.1 rfl (lv_room (Nat.le_of_ble_eq_true rfl)) dX11_leafOf_60 ⟨Nat.le_of_ble_eq_true rfl, Nat.le_of_ble_eq_true rfl⟩)) (fun r_9 hw_9 => ?_)
  obtain rfl : r_9 = 0 := hw_9
  refine lv_if_eq (tgt := 70) hx hb dX11_leafOf_63 (by decide) (fun _ => ?_) (fun c_10 => absurd c_10 (by decide))
  refine lv_aload_n hx hb dX11_leafOf_70 rfl (lv_at hl 0 rfl) ?_
  refine lv_ldc2 (v := 1836020596) hx hb hown (hg _ q_6_124) dX11_leafOf_71 ?_
  have hPc_11 := hP.sub (ws' := [(mo, .inr (11, fmo))]) [0] rfl
  have hDc_11 := hD.sub (ws' := [(mo, .inr (11, fmo))]) [0] (by decide) rfl
  refine vp_callSi (va_Run.run (va_runV (As := [.long 1836020596]) (rest := []) ⟨hx, hb, hml, hown, hg⟩ (c_X11_isWord l D y s.heap.size mo fmo 1836020596 hmo_11) (cwV 1 hg (px_gV q_7_109 q_7_111 q_p_63 q_1_15 q_7_112) rfl rfl rfl (by decide +kernel) ⟨Nat.le_of_ble_eq_true rfl, Nat.le_of_ble_eq_true rfl⟩) (px_preV hK hPc_11 hDc_11 (ci := 11) (q0 := 0) rfl rfl) rfl rfl hl.1 rfl (lv_room (Nat.le_of_ble_eq_true rfl)) dX11_leafOf_74 ⟨Nat.le_of_ble_eq_true rfl, Nat.le_of_ble_eq_true rfl⟩)) (fun r_11 hw_11 => ?_)
  obtain rfl : r_11 = 0 := hw_11
  refine lv_if_eq (tgt := 84) hx hb dX11_leafOf_77 (by decide) (fun _ => ?_) (fun c_12 => absurd c_12 (by decide))
  refine lv_aload_n hx hb dX11_leafOf_84 rfl (lv_at hl 0 rfl) ?_
  refine lv_ldc2 (v := 482854658917) hx hb hown (hg _ q_6_125) dX11_leafOf_85 ?_
  have hPc_13 := hP.sub (ws' := [(mo, .inr (11, fmo))]) [0] rfl
  have hDc_13 := hD.sub (ws' := [(mo, .inr (11, fmo))]) [0] (by decide) rfl
  refine vp_callSi (va_Run.run (va_runV (As := [.long 482854658917]) (rest := []) ⟨hx, hb, hml, hown, hg⟩ (c_X11_isWord l D y s.heap.size mo fmo 482854658917 hmo_11) (cwV 1 hg (px_gV q_7_109 q_7_111 q_p_63 q_1_15 q_7_112) rfl rfl rfl (by decide +kernel) ⟨Nat.le_of_ble_eq_true rfl, Nat.le_of_ble_eq_true rfl⟩) (px_preV hK hPc_13 hDc_13 (ci := 11) (q0 := 0) rfl rfl) rfl rfl hl.1 rfl (lv_room (Nat.le_of_ble_eq_true rfl)) dX11_leafOf_88 ⟨Nat.le_of_ble_eq_true rfl, Nat.le_of_ble_eq_true rfl⟩)) (fun r_13 hw_13 => ?_)
  obtain rfl : r_13 = 0 := hw_13
  refine lv_if_eq (tgt := 99) hx hb dX11_leafOf_91 (by decide) (fun _ => ?_) (fun c_14 => absurd c_14 (by decide))
  refine lv_iconst (v := (-1)) hx hb dX11_leafOf_99 (by decide) ?_
  exact W.iret (v := (-1)) hx hb hr (fun t ht hW => ⟨_, rfl, rfl, ht⟩) (fun q h => by cases h) dX11_leafOf_100

set_option maxHeartbeats 4000000 in
set_option maxRecDepth 100000 in
theorem c_X11_bad (l : Launch) (D : va_G) (y : Nat → ClassId) (sz : Nat) (mo : Nat) (fmo : List Value) (p0 : Int32) (hmo_12 : fmo[12]? = some (.int 0)) (hmo_15 : fmo[15]? = some (.int 0)) (hmo_16 : fmo[16]? = some (.int 0)) : Met l yX11_bad (px_w yX11_bad cX11_bad 2 (some .boolean)) ({ frames := 0, cells := 0, slots := 0, locals := 0 }) (va_Pc [.ref mo, .int p0] (px_P D y sz [(mo, .inr (11, fmo))])) (va_Qi (fun (r : Int32) (u : Unit) => r = 0) (fun (u : Unit) t => va_P D vwCl [(mo, .inr (11, ((fmo.set 15 (.int p0)).set 16 (.int 0))))] t.heap ∧ va_D (va_A [(mo, .inr (11, fmo))] sz) [(mo, .inr (11, ((fmo.set 15 (.int p0)).set 16 (.int 0))))]) (va_A [(mo, .inr (11, fmo))] sz)) 0 0 (va_A [(mo, .inr (11, fmo))] sz) := by
  refine Met.ofW (cc := cX11_bad) (maxL := 2) (ret := (some .boolean)) (by decide) rfl ?_
  intro p e s m args below meth c s₁ B hml hv
  obtain ⟨rfl, hsz, hP, hK, hD0⟩ := hv
  have hx := B.exec
  have hb := B.bytes
  have hr := B.returns
  have hts := atoms_spec (ws := px_w yX11_bad cX11_bad 2 (some .boolean)) B.pre
  have hg : ∀ w ∈ gw, w.before [.ref mo, .int p0].toArray s = true := fun w h => hts w (List.mem_cons_of_mem _ h)
  have hown : s.vm.findClass RX11 = some m.cls := findClass_of_methodNamed B.named
  have hlocks := B.notSynchronized
  subst hsz
  have hD := hD0.self (sz := s.heap.size)
  generalize hAe : va_A [(mo, .inr (11, fmo))] s.heap.size = A at hD ⊢
  have hA : ∀ q : Nat, s.heap.size ≤ q → A q := fun q h => by rw [← hAe]; exact Or.inr h
  have hS : va_S A s.heap s.heap [] := va_S.rf
  have hP : va_P D vwCl [(mo, .inr (11, fmo))] s.heap := hP
  have hl := lv_entry ([.ref mo, .int p0]) (n := 2) (Nat.le_of_ble_eq_true rfl)
  rw [lg_entry_eq]
  generalize (lg_sl ([.ref mo, .int p0]) ++ List.replicate (2 - (lg_sl ([.ref mo, .int p0])).length) Slot.unset).toArray = ls at hl ⊢
  have hl : lv_has ls 2 [(0, .ref mo), (1, .int p0)] := hl
  refine lv_aload_n hx hb dX11_bad_0 rfl (lv_at hl 0 rfl) ?_
  refine lv_iload_n hx hb dX11_bad_1 rfl (lv_at hl 1 rfl) ?_
  refine va_put (D := D) (ci := 11) (v := .int p0) (ty := .int) (C := RX11) (T := TX11) (N := 65) hx hb hg inGX11 tyX11 tyX11_ok nmX11 hown hK hP hD hS 0 rfl rfl 15 (by decide) (hg _ q_6_141) (fun _ h9 => h9) rfl (by decide +kernel) rfl rfl (px_len hmo_15) dX11_bad_2 (fun H locs hP hD hS => ?_)
  have hP : va_P D vwCl [(mo, .inr (11, (fmo.set 15 (.int p0))))] H := hP
  have hD : va_D A [(mo, .inr (11, (fmo.set 15 (.int p0))))] := hD
  refine lv_aload_n hx hb dX11_bad_5 rfl (lv_at hl 0 rfl) ?_
  refine lv_aload_n hx hb dX11_bad_6 rfl (lv_at hl 0 rfl) ?_
  refine va_get (D := D) (ci := 11) (v := .int 0) (C := RX11) (T := TX11) (N := 65) hx hb hg inGX11 hown hK hP 0 rfl rfl 12 (by decide) (hg _ q_6_138) (fun _ h9 => h9) (px_sn (by decide) hmo_12) dX11_bad_7 ?_
  refine va_put (D := D) (ci := 11) (v := .int 0) (ty := .int) (C := RX11) (T := TX11) (N := 65) hx hb hg inGX11 tyX11 tyX11_ok nmX11 hown hK hP hD hS 0 rfl rfl 16 (by decide) (hg _ q_6_142) (fun _ h9 => h9) rfl (by decide +kernel) rfl rfl (px_len (px_sn (by decide) hmo_16)) dX11_bad_10 (fun H locs hP hD hS => ?_)
  have hP : va_P D vwCl [(mo, .inr (11, ((fmo.set 15 (.int p0)).set 16 (.int 0))))] H := hP
  have hD : va_D A [(mo, .inr (11, ((fmo.set 15 (.int p0)).set 16 (.int 0))))] := hD
  refine lv_iconst (v := 0) hx hb dX11_bad_13 (by decide) ?_
  have hP9 := hP.sub (ws' := [(mo, .inr (11, ((fmo.set 15 (.int p0)).set 16 (.int 0))))]) [0] rfl
  have hD9 := hD.sub (ws' := [(mo, .inr (11, ((fmo.set 15 (.int p0)).set 16 (.int 0))))]) [0] (by decide) rfl
  exact W.zret (v := 0) hx hb hr (by decide) (fun t ht hW => ⟨⟨_, (), rfl, rfl, by rw [ht]; exact hP9, by subst hAe; exact hD9⟩, by subst hAe; exact hS.F ht⟩) (fun q h => by subst hAe; exact hS.2.2 q h) dX11_bad_14

set_option maxHeartbeats 4000000 in
set_option maxRecDepth 100000 in
theorem c_X11_operand (l : Launch) (D : va_G) (y : Nat → ClassId) (sz : Nat) (mo : Nat) (fmo : List Value) (hmo_11 : fmo[11]? = some (.int 0)) (hmo_12 : fmo[12]? = some (.int 0)) (hmo_15 : fmo[15]? = some (.int 0)) (hmo_16 : fmo[16]? = some (.int 0)) : Met l yX11_operand (px_w yX11_operand cX11_operand 5 (some .boolean)) ({ frames := 2, cells := 0, slots := 0, locals := 42 }) (va_Pc [.ref mo] (px_P D y sz [(mo, .inr (11, fmo))])) (va_Qi (fun (r : Int32) (u : Unit) => r = 0) (fun (u : Unit) t => va_P D vwCl [(mo, .inr (11, ((fmo.set 15 (.int 1)).set 16 (.int 0))))] t.heap ∧ va_D (va_A [(mo, .inr (11, fmo))] sz) [(mo, .inr (11, ((fmo.set 15 (.int 1)).set 16 (.int 0))))]) (va_A [(mo, .inr (11, fmo))] sz)) 0 0 (va_A [(mo, .inr (11, fmo))] sz) := by
  refine Met.ofW (cc := cX11_operand) (maxL := 5) (ret := (some .boolean)) (by decide) rfl ?_
  intro p e s m args below meth c s₁ B hml hv
  obtain ⟨rfl, hsz, hP, hK, hD0⟩ := hv
  have hx := B.exec
  have hb := B.bytes
  have hr := B.returns
  have hts := atoms_spec (ws := px_w yX11_operand cX11_operand 5 (some .boolean)) B.pre
  have hg : ∀ w ∈ gw, w.before [.ref mo].toArray s = true := fun w h => hts w (List.mem_cons_of_mem _ h)
  have hown : s.vm.findClass RX11 = some m.cls := findClass_of_methodNamed B.named
  have hlocks := B.notSynchronized
  subst hsz
  have hD := hD0.self (sz := s.heap.size)
  generalize hAe : va_A [(mo, .inr (11, fmo))] s.heap.size = A at hD ⊢
  have hA : ∀ q : Nat, s.heap.size ≤ q → A q := fun q h => by rw [← hAe]; exact Or.inr h
  have hS : va_S A s.heap s.heap [] := va_S.rf
  have hP : va_P D vwCl [(mo, .inr (11, fmo))] s.heap := hP
  have hl := lv_entry ([.ref mo]) (n := 5) (Nat.le_of_ble_eq_true rfl)
  rw [lg_entry_eq]
  generalize (lg_sl ([.ref mo]) ++ List.replicate (5 - (lg_sl ([.ref mo])).length) Slot.unset).toArray = ls at hl ⊢
  have hl : lv_has ls 5 [(0, .ref mo)] := hl
  refine lv_aload_n hx hb dX11_operand_0 rfl (lv_at hl 0 rfl) ?_
  refine lv_ldc2 (v := 7237492) hx hb hown (hg _ q_6_118) dX11_operand_1 ?_
  have hPc_1 := hP.sub (ws' := [(mo, .inr (11, fmo))]) [0] rfl
  have hDc_1 := hD.sub (ws' := [(mo, .inr (11, fmo))]) [0] (by decide) rfl
  refine vp_callSi (va_Run.run (va_runV (As := [.long 7237492]) (rest := []) ⟨hx, hb, hml, hown, hg⟩ (c_X11_isWord l D y s.heap.size mo fmo 7237492 hmo_11) (cwV 1 hg (px_gV q_7_109 q_7_111 q_p_63 q_1_15 q_7_112) rfl rfl rfl (by decide +kernel) ⟨Nat.le_of_ble_eq_true rfl, Nat.le_of_ble_eq_true rfl⟩) (px_preV hK hPc_1 hDc_1 (ci := 11) (q0 := 0) rfl rfl) rfl rfl hl.1 rfl (lv_room (Nat.le_of_ble_eq_true rfl)) dX11_operand_4 ⟨Nat.le_of_ble_eq_true rfl, Nat.le_of_ble_eq_true rfl⟩)) (fun r_1 hw_1 => ?_)
  obtain rfl : r_1 = 0 := hw_1
  refine lv_istore_n (lv' := [(1, .int 0), (0, .ref mo)]) hx hb dX11_operand_7 rfl hl (by decide) rfl (fun ls hl => ?_)
  refine lv_aload_n hx hb dX11_operand_8 rfl (lv_at hl 1 rfl) ?_
  refine lv_bipush (v := 40) hx hb dX11_operand_9 (by decide) ?_
  have hPc_2 := hP.sub (ws' := [(mo, .inr (11, fmo))]) [0] rfl
  have hDc_2 := hD.sub (ws' := [(mo, .inr (11, fmo))]) [0] (by decide) rfl
  refine vp_callSi (va_Run.run (va_runV (As := [.int 40]) (rest := []) ⟨hx, hb, hml, hown, hg⟩ (c_X11_isSign l D y s.heap.size mo fmo 40 hmo_11) (cwV 1 hg (px_gV q_7_140 q_7_142 q_p_70 q_1_15 q_7_143) rfl rfl rfl (by decide +kernel) ⟨Nat.le_of_ble_eq_true rfl, Nat.le_of_ble_eq_true rfl⟩) (px_preV hK hPc_2 hDc_2 (ci := 11) (q0 := 0) rfl rfl) rfl rfl hl.1 rfl (lv_room (Nat.le_of_ble_eq_true rfl)) dX11_operand_11 ⟨Nat.le_of_ble_eq_true rfl, Nat.le_of_ble_eq_true rfl⟩)) (fun r_2 hw_2 => ?_)
  obtain rfl : r_2 = 0 := hw_2
  refine lv_istore_n (lv' := [(2, .int 0), (1, .int 0), (0, .ref mo)]) hx hb dX11_operand_14 rfl hl (by decide) rfl (fun ls hl => ?_)
  refine lv_aload_n hx hb dX11_operand_15 rfl (lv_at hl 2 rfl) ?_
  have hPc_3 := hP.sub (ws' := [(mo, .inr (11, fmo))]) [0] rfl
  have hDc_3 := hD.sub (ws' := [(mo, .inr (11, fmo))]) [0] (by decide) rfl
  refine vp_callSi (va_Run.run (va_runV (As := []) (rest := []) ⟨hx, hb, hml, hown, hg⟩ (c_X11_leafOf l D y s.heap.size mo fmo hmo_11) (cwV 0 hg (px_gV q_8_228 q_8_230 q_p_117 q_1_15 q_8_231) rfl rfl rfl (by decide +kernel) ⟨Nat.le_of_ble_eq_true rfl, Nat.le_of_ble_eq_true rfl⟩) (px_preV hK hPc_3 hDc_3 (ci := 11) (q0 := 0) rfl rfl) rfl rfl hl.1 rfl (lv_room (Nat.le_of_ble_eq_true rfl)) dX11_operand_16 ⟨Nat.le_of_ble_eq_true rfl, Nat.le_of_ble_eq_true rfl⟩)) (fun r_3 hw_3 => ?_)
  obtain rfl : r_3 = (-1) := hw_3
  refine lv_istore_n (lv' := [(3, .int (-1)), (2, .int 0), (1, .int 0), (0, .ref mo)]) hx hb dX11_operand_19 rfl hl (by decide) rfl (fun ls hl => ?_)
  refine lv_iload_n hx hb dX11_operand_20 rfl (lv_at hl 2 rfl) ?_
  refine lv_if_ne (tgt := 38) hx hb dX11_operand_21 (by decide) (fun c_4 => absurd c_4 (by decide)) (fun _ => ?_)
  refine lv_iload_n hx hb dX11_operand_24 rfl (lv_at hl 1 rfl) ?_
  refine lv_if_ne (tgt := 38) hx hb dX11_operand_25 (by decide) (fun c_5 => absurd c_5 (by decide)) (fun _ => ?_)
  refine lv_iload_n hx hb dX11_operand_28 rfl (lv_at hl 0 rfl) ?_
  refine lv_if_ge (tgt := 38) hx hb dX11_operand_29 (by decide) (fun c_6 => absurd c_6 (by decide)) (fun _ => ?_)
  refine lv_aload_n hx hb dX11_operand_32 rfl (lv_at hl 3 rfl) ?_
  refine lv_iconst (v := 1) hx hb dX11_operand_33 (by decide) ?_
  have hPc_7 := hP.sub (ws' := [(mo, .inr (11, fmo))]) [0] rfl
  have hDc_7 := hD.sub (ws' := [(mo, .inr (11, fmo))]) [0] (by decide) rfl
  have hFc_7 := va_free (wc := [(mo, .inr (11, fmo))]) hD hS hA [0] rfl
  refine va_calli (va_runV (As := [.int 1]) (rest := []) ⟨hx, hb, hml, hown, hg⟩ (c_X11_bad l D y s.heap.size mo fmo 1 hmo_12 hmo_15 hmo_16) (cwV 1 hg (px_gV q_7_113 q_7_115 q_p_64 q_1_15 q_7_116) rfl rfl rfl (by decide +kernel) ⟨Nat.le_of_ble_eq_true rfl, Nat.le_of_ble_eq_true rfl⟩) (px_preV hK hPc_7 hDc_7 (ci := 11) (q0 := 0) rfl rfl) rfl rfl hl.1 rfl (lv_room (Nat.le_of_ble_eq_true rfl)) dX11_operand_34 ⟨Nat.le_of_ble_eq_true rfl, Nat.le_of_ble_eq_true rfl⟩) hS (fun q _ h => hFc_7 q h) hFc_7 (fun r_7 u_7 t_7 H1 locs ht_7 hvm_7 hw_7 hB_7 hz_7 hk_7 hS => ?_)
  refine W.cs (cells' := 0) (slots' := 0) rfl rfl ?_
  obtain ⟨hP1_7, hD1_7⟩ := hB_7
  rw [ht_7] at hP1_7
  obtain ⟨hP, hD⟩ := va_join (wr := []) (w1 := [(mo, .inr (11, ((fmo.set 15 (.int 1)).set 16 (.int 0))))]) hP hD [0] [] rfl rfl (by decide) (by decide) hk_7 hFc_7 hP1_7 hD1_7
  generalize H1 = H at hP hS ⊢
  have hP : va_P D vwCl [(mo, .inr (11, ((fmo.set 15 (.int 1)).set 16 (.int 0))))] H := hP
  have hD : va_D A [(mo, .inr (11, ((fmo.set 15 (.int 1)).set 16 (.int 0))))] := hD
  obtain rfl : r_7 = 0 := hw_7
  have hP9 := hP.sub (ws' := [(mo, .inr (11, ((fmo.set 15 (.int 1)).set 16 (.int 0))))]) [0] rfl
  have hD9 := hD.sub (ws' := [(mo, .inr (11, ((fmo.set 15 (.int 1)).set 16 (.int 0))))]) [0] (by decide) rfl
  exact W.zret (v := 0) hx hb hr (by decide) (fun t ht hW => ⟨⟨_, (), rfl, rfl, by rw [ht]; exact hP9, by subst hAe; exact hD9⟩, by subst hAe; exact hS.F ht⟩) (fun q h => by subst hAe; exact hS.2.2 q h) dX11_operand_37

set_option maxHeartbeats 4000000 in
set_option maxRecDepth 100000 in
theorem c_X11_sentence (l : Launch) (D : va_G) (y : Nat → ClassId) (sz : Nat) (mo : Nat) (fmo : List Value) (hmo_0 : fmo[0]? = some (.int 0)) (hmo_2 : fmo[2]? = some (.int 0)) (hmo_3 : fmo[3]? = some (.int 0)) (hmo_4 : fmo[4]? = some (.int 0)) (hmo_5 : fmo[5]? = some (.int 0)) (hmo_11 : fmo[11]? = some (.int 0)) (hmo_12 : fmo[12]? = some (.int 0)) (hmo_13 : fmo[13]? = some (.int 0)) (hmo_15 : fmo[15]? = some (.int 0)) (hmo_16 : fmo[16]? = some (.int 0)) (hmo_56 : fmo[56]? = some (.int 0)) (hmo_57 : fmo[57]? = some (.int 0)) (hmo_58 : fmo[58]? = some (.int 0)) (hmo_59 : fmo[59]? = some (.int 0)) (hmo_60 : fmo[60]? = some (.int 0)) : Met l yX11_sentence (px_w yX11_sentence cX11_sentence 3 (some .int)) ({ frames := 3, cells := 0, slots := 0, locals := 66 }) (va_Pc [.ref mo] (px_P D y sz [(mo, .inr (11, fmo))])) (va_Qi (fun (r : Int32) (u : Unit) => r = (-1)) (fun (u : Unit) t => True) (va_A [(mo, .inr (11, fmo))] sz)) 0 0 (va_A [(mo, .inr (11, fmo))] sz) := by
  refine Met.ofW (cc := cX11_sentence) (maxL := 3) (ret := (some .int)) (by decide) rfl ?_
  intro p e s m args below meth c s₁ B hml hv
  obtain ⟨rfl, hsz, hP, hK, hD0⟩ := hv
  have hx := B.exec
  have hb := B.bytes
  have hr := B.returns
  have hts := atoms_spec (ws := px_w yX11_sentence cX11_sentence 3 (some .int)) B.pre
  have hg : ∀ w ∈ gw, w.before [.ref mo].toArray s = true := fun w h => hts w (List.mem_cons_of_mem _ h)
  have hown : s.vm.findClass RX11 = some m.cls := findClass_of_methodNamed B.named
  have hlocks := B.notSynchronized
  subst hsz
  have hD := hD0.self (sz := s.heap.size)
  generalize hAe : va_A [(mo, .inr (11, fmo))] s.heap.size = A at hD ⊢
  have hA : ∀ q : Nat, s.heap.size ≤ q → A q := fun q h => by rw [← hAe]; exact Or.inr h
  have hS : va_S A s.heap s.heap [] := va_S.rf
  have hP : va_P D vwCl [(mo, .inr (11, fmo))] s.heap := hP
  have hl := lv_entry ([.ref mo]) (n := 3) (Nat.le_of_ble_eq_true rfl)
  rw [lg_entry_eq]
  generalize (lg_sl ([.ref mo]) ++ List.replicate (3 - (lg_sl ([.ref mo])).length) Slot.unset).toArray = ls at hl ⊢
  have hl : lv_has ls 3 [(0, .ref mo)] := hl
  refine lv_aload_n hx hb dX11_sentence_0 rfl (lv_at hl 0 rfl) ?_
  refine lv_iconst (v := 0) hx hb dX11_sentence_1 (by decide) ?_
  refine va_put (D := D) (ci := 11) (v := .int 0) (ty := .int) (C := RX11) (T := TX11) (N := 65) hx hb hg inGX11 tyX11 tyX11_ok nmX11 hown hK hP hD hS 0 rfl rfl 0 (by decide) (hg _ q_6_126) (fun _ h9 => h9) rfl (by decide +kernel) rfl rfl (px_len hmo_0) dX11_sentence_2 (fun H locs hP hD hS => ?_)
  have hP : va_P D vwCl [(mo, .inr (11, (fmo.set 0 (.int 0))))] H := hP
  have hD : va_D A [(mo, .inr (11, (fmo.set 0 (.int 0))))] := hD
  refine lv_aload_n hx hb dX11_sentence_5 rfl (lv_at hl 0 rfl) ?_
  refine lv_sipush (v := 200) hx hb dX11_sentence_6 (by decide) ?_
  have hPc_1 := hP.sub (ws' := [(mo, .inr (11, (fmo.set 0 (.int 0))))]) [0] rfl
  have hDc_1 := hD.sub (ws' := [(mo, .inr (11, (fmo.set 0 (.int 0))))]) [0] (by decide) rfl
  have hFc_1 := va_free (wc := [(mo, .inr (11, (fmo.set 0 (.int 0))))]) hD hS hA [0] rfl
  refine va_callv (va_runV (As := [.int 200]) (rest := []) ⟨hx, hb, hml, hown, hg⟩ (c_X11_taken l D y H.size mo (fmo.set 0 (.int 0)) 200 (px_sn (by decide) hmo_2) (px_sn (by decide) hmo_3) (px_sn (by decide) hmo_4) (px_sn (by decide) hmo_5)) (cwV 1 hg (px_gV q_7_87 q_7_89 q_p_59 q_1_15 q_7_90) rfl rfl rfl (by decide +kernel) ⟨Nat.le_of_ble_eq_true rfl, Nat.le_of_ble_eq_true rfl⟩) (px_preV hK hPc_1 hDc_1 (ci := 11) (q0 := 0) rfl rfl) rfl rfl hl.1 rfl (lv_room (Nat.le_of_ble_eq_true rfl)) dX11_sentence_9 ⟨Nat.le_of_ble_eq_true rfl, Nat.le_of_ble_eq_true rfl⟩) hS (fun q _ h => hFc_1 q h) hFc_1 (fun u_1 t_1 H1 locs ht_1 hvm_1 hw_1 hB_1 hz_1 hk_1 hS => ?_)
  refine W.cs (cells' := 0) (slots' := 0) rfl rfl ?_
  obtain ⟨hP1_1, hD1_1⟩ := hB_1
  rw [ht_1] at hP1_1
  obtain ⟨hP, hD⟩ := va_join (wr := []) (w1 := [(mo, .inr (11, (((((fmo.set 0 (.int 0)).set 3 (.int 0)).set 2 (.int 0)).set 4 (.int 0)).set 5 (.int 200))))]) hP hD [0] [] rfl rfl (by decide) (by decide) hk_1 hFc_1 hP1_1 hD1_1
  generalize H1 = H at hP hS ⊢
  have hP : va_P D vwCl [(mo, .inr (11, (((((fmo.set 0 (.int 0)).set 3 (.int 0)).set 2 (.int 0)).set 4 (.int 0)).set 5 (.int 200))))] H := hP
  have hD : va_D A [(mo, .inr (11, (((((fmo.set 0 (.int 0)).set 3 (.int 0)).set 2 (.int 0)).set 4 (.int 0)).set 5 (.int 200))))] := hD
  refine lv_aload_n hx hb dX11_sentence_12 rfl (lv_at hl 0 rfl) ?_
  refine lv_iconst (v := 0) hx hb dX11_sentence_13 (by decide) ?_
  refine va_put (D := D) (ci := 11) (v := .int 0) (ty := .int) (C := RX11) (T := TX11) (N := 65) hx hb hg inGX11 tyX11 tyX11_ok nmX11 hown hK hP hD hS 0 rfl rfl 15 (by decide) (hg _ q_6_141) (fun _ h9 => h9) rfl (by decide +kernel) rfl rfl (px_len (px_sn (by decide) (px_sn (by decide) (px_sn (by decide) (px_sn (by decide) (px_sn (by decide) hmo_15)))))) dX11_sentence_14 (fun H locs hP hD hS => ?_)
  have hP : va_P D vwCl [(mo, .inr (11, ((((((fmo.set 0 (.int 0)).set 3 (.int 0)).set 2 (.int 0)).set 4 (.int 0)).set 5 (.int 200)).set 15 (.int 0))))] H := hP
  have hD : va_D A [(mo, .inr (11, ((((((fmo.set 0 (.int 0)).set 3 (.int 0)).set 2 (.int 0)).set 4 (.int 0)).set 5 (.int 200)).set 15 (.int 0))))] := hD
  refine lv_aload_n hx hb dX11_sentence_17 rfl (lv_at hl 0 rfl) ?_
  refine lv_iconst (v := 0) hx hb dX11_sentence_18 (by decide) ?_
  refine va_put (D := D) (ci := 11) (v := .int 0) (ty := .int) (C := RX11) (T := TX11) (N := 65) hx hb hg inGX11 tyX11 tyX11_ok nmX11 hown hK hP hD hS 0 rfl rfl 56 (by decide) (hg _ q_6_182) (fun _ h9 => h9) rfl (by decide +kernel) rfl rfl (px_len (px_sn (by decide) (px_sn (by decide) (px_sn (by decide) (px_sn (by decide) (px_sn (by decide) (px_sn (by decide) hmo_56))))))) dX11_sentence_19 (fun H locs hP hD hS => ?_)
  have hP : va_P D vwCl [(mo, .inr (11, (((((((fmo.set 0 (.int 0)).set 3 (.int 0)).set 2 (.int 0)).set 4 (.int 0)).set 5 (.int 200)).set 15 (.int 0)).set 56 (.int 0))))] H := hP
  have hD : va_D A [(mo, .inr (11, (((((((fmo.set 0 (.int 0)).set 3 (.int 0)).set 2 (.int 0)).set 4 (.int 0)).set 5 (.int 200)).set 15 (.int 0)).set 56 (.int 0))))] := hD
  refine lv_aload_n hx hb dX11_sentence_22 rfl (lv_at hl 0 rfl) ?_
  refine lv_iconst (v := 0) hx hb dX11_sentence_23 (by decide) ?_
  refine va_put (D := D) (ci := 11) (v := .int 0) (ty := .int) (C := RX11) (T := TX11) (N := 65) hx hb hg inGX11 tyX11 tyX11_ok nmX11 hown hK hP hD hS 0 rfl rfl 57 (by decide) (hg _ q_6_183) (fun _ h9 => h9) rfl (by decide +kernel) rfl rfl (px_len (px_sn (by decide) (px_sn (by decide) (px_sn (by decide) (px_sn (by decide) (px_sn (by decide) (px_sn (by decide) (px_sn (by decide) hmo_57)))))))) dX11_sentence_24 (fun H locs hP hD hS => ?_)
  have hP : va_P D vwCl [(mo, .inr (11, ((((((((fmo.set 0 (.int 0)).set 3 (.int 0)).set 2 (.int 0)).set 4 (.int 0)).set 5 (.int 200)).set 15 (.int 0)).set 56 (.int 0)).set 57 (.int 0))))] H := hP
  have hD : va_D A [(mo, .inr (11, ((((((((fmo.set 0 (.int 0)).set 3 (.int 0)).set 2 (.int 0)).set 4 (.int 0)).set 5 (.int 200)).set 15 (.int 0)).set 56 (.int 0)).set 57 (.int 0))))] := hD
  refine lv_aload_n hx hb dX11_sentence_27 rfl (lv_at hl 0 rfl) ?_
  refine lv_iconst (v := 0) hx hb dX11_sentence_28 (by decide) ?_
  refine va_put (D := D) (ci := 11) (v := .int 0) (ty := .int) (C := RX11) (T := TX11) (N := 65) hx hb hg inGX11 tyX11 tyX11_ok nmX11 hown hK hP hD hS 0 rfl rfl 58 (by decide) (hg _ q_6_184) (fun _ h9 => h9) rfl (by decide +kernel) rfl rfl (px_len (px_sn (by decide) (px_sn (by decide) (px_sn (by decide) (px_sn (by decide) (px_sn (by decide) (px_sn (by decide) (px_sn (by decide) (px_sn (by decide) hmo_58))))))))) dX11_sentence_29 (fun H locs hP hD hS => ?_)
  have hP : va_P D vwCl [(mo, .inr (11, (((((((((fmo.set 0 (.int 0)).set 3 (.int 0)).set 2 (.int 0)).set 4 (.int 0)).set 5 (.int 200)).set 15 (.int 0)).set 56 (.int 0)).set 57 (.int 0)).set 58 (.int 0))))] H := hP
  have hD : va_D A [(mo, .inr (11, (((((((((fmo.set 0 (.int 0)).set 3 (.int 0)).set 2 (.int 0)).set 4 (.int 0)).set 5 (.int 200)).set 15 (.int 0)).set 56 (.int 0)).set 57 (.int 0)).set 58 (.int 0))))] := hD
  refine lv_aload_n hx hb dX11_sentence_32 rfl (lv_at hl 0 rfl) ?_
  refine lv_iconst (v := 1) hx hb dX11_sentence_33 (by decide) ?_
  refine va_put (D := D) (ci := 11) (v := .int 1) (ty := .int) (C := RX11) (T := TX11) (N := 65) hx hb hg inGX11 tyX11 tyX11_ok nmX11 hown hK hP hD hS 0 rfl rfl 59 (by decide) (hg _ q_6_185) (fun _ h9 => h9) rfl (by decide +kernel) rfl rfl (px_len (px_sn (by decide) (px_sn (by decide) (px_sn (by decide) (px_sn (by decide) (px_sn (by decide) (px_sn (by decide) (px_sn (by decide) (px_sn (by decide) (px_sn (by decide) hmo_59)))))))))) dX11_sentence_34 (fun H locs hP hD hS => ?_)
  have hP : va_P D vwCl [(mo, .inr (11, ((((((((((fmo.set 0 (.int 0)).set 3 (.int 0)).set 2 (.int 0)).set 4 (.int 0)).set 5 (.int 200)).set 15 (.int 0)).set 56 (.int 0)).set 57 (.int 0)).set 58 (.int 0)).set 59 (.int 1))))] H := hP
  have hD : va_D A [(mo, .inr (11, ((((((((((fmo.set 0 (.int 0)).set 3 (.int 0)).set 2 (.int 0)).set 4 (.int 0)).set 5 (.int 200)).set 15 (.int 0)).set 56 (.int 0)).set 57 (.int 0)).set 58 (.int 0)).set 59 (.int 1))))] := hD
  refine lv_aload_n hx hb dX11_sentence_37 rfl (lv_at hl 0 rfl) ?_
  refine lv_iconst (v := 0) hx hb dX11_sentence_38 (by decide) ?_
  refine va_put (D := D) (ci := 11) (v := .int 0) (ty := .boolean) (C := RX11) (T := TX11) (N := 65) hx hb hg inGX11 tyX11 tyX11_ok nmX11 hown hK hP hD hS 0 rfl rfl 60 (by decide) (hg _ q_6_186) (fun _ h9 => h9) rfl (by decide +kernel) (by decide) rfl (px_len (px_sn (by decide) (px_sn (by decide) (px_sn (by decide) (px_sn (by decide) (px_sn (by decide) (px_sn (by decide) (px_sn (by decide) (px_sn (by decide) (px_sn (by decide) (px_sn (by decide) hmo_60))))))))))) dX11_sentence_39 (fun H locs hP hD hS => ?_)
  have hP : va_P D vwCl [(mo, .inr (11, (((((((((((fmo.set 0 (.int 0)).set 3 (.int 0)).set 2 (.int 0)).set 4 (.int 0)).set 5 (.int 200)).set 15 (.int 0)).set 56 (.int 0)).set 57 (.int 0)).set 58 (.int 0)).set 59 (.int 1)).set 60 (.int 0))))] H := hP
  have hD : va_D A [(mo, .inr (11, (((((((((((fmo.set 0 (.int 0)).set 3 (.int 0)).set 2 (.int 0)).set 4 (.int 0)).set 5 (.int 200)).set 15 (.int 0)).set 56 (.int 0)).set 57 (.int 0)).set 58 (.int 0)).set 59 (.int 1)).set 60 (.int 0))))] := hD
  refine lv_aload_n hx hb dX11_sentence_42 rfl (lv_at hl 0 rfl) ?_
  have hPc_2 := hP.sub (ws' := [(mo, .inr (11, (((((((((((fmo.set 0 (.int 0)).set 3 (.int 0)).set 2 (.int 0)).set 4 (.int 0)).set 5 (.int 200)).set 15 (.int 0)).set 56 (.int 0)).set 57 (.int 0)).set 58 (.int 0)).set 59 (.int 1)).set 60 (.int 0))))]) [0] rfl
  have hDc_2 := hD.sub (ws' := [(mo, .inr (11, (((((((((((fmo.set 0 (.int 0)).set 3 (.int 0)).set 2 (.int 0)).set 4 (.int 0)).set 5 (.int 200)).set 15 (.int 0)).set 56 (.int 0)).set 57 (.int 0)).set 58 (.int 0)).set 59 (.int 1)).set 60 (.int 0))))]) [0] (by decide) rfl
  have hFc_2 := va_free (wc := [(mo, .inr (11, (((((((((((fmo.set 0 (.int 0)).set 3 (.int 0)).set 2 (.int 0)).set 4 (.int 0)).set 5 (.int 200)).set 15 (.int 0)).set 56 (.int 0)).set 57 (.int 0)).set 58 (.int 0)).set 59 (.int 1)).set 60 (.int 0))))]) hD hS hA [0] rfl
  refine va_callv (va_runV (As := []) (rest := []) ⟨hx, hb, hml, hown, hg⟩ (c_X11_next_200 l D y H.size mo (((((((((((fmo.set 0 (.int 0)).set 3 (.int 0)).set 2 (.int 0)).set 4 (.int 0)).set 5 (.int 200)).set 15 (.int 0)).set 56 (.int 0)).set 57 (.int 0)).set 58 (.int 0)).set 59 (.int 1)).set 60 (.int 0)) (px_sn (by decide) (px_sn (by decide) (px_sn (by decide) (px_sn (by decide) (px_sn (by decide) (px_sn (by decide) (px_sn (by decide) (px_sn (by decide) (px_sn (by decide) (px_ss (px_sn (by decide) hmo_3))))))))))) (px_sn (by decide) (px_sn (by decide) (px_sn (by decide) (px_sn (by decide) (px_sn (by decide) (px_sn (by decide) (px_sn (by decide) (px_ss (px_sn (by decide) (px_sn (by decide) (px_sn (by decide) hmo_4))))))))))) (px_sn (by decide) (px_sn (by decide) (px_sn (by decide) (px_sn (by decide) (px_sn (by decide) (px_sn (by decide) (px_ss (px_sn (by decide) (px_sn (by decide) (px_sn (by decide) (px_sn (by decide) hmo_5))))))))))) (px_sn (by decide) (px_sn (by decide) (px_sn (by decide) (px_sn (by decide) (px_sn (by decide) (px_sn (by decide) (px_sn (by decide) (px_sn (by decide) (px_sn (by decide) (px_sn (by decide) (px_sn (by decide) hmo_11))))))))))) (px_sn (by decide) (px_sn (by decide) (px_sn (by decide) (px_sn (by decide) (px_sn (by decide) (px_sn (by decide) (px_sn (by decide) (px_sn (by decide) (px_sn (by decide) (px_sn (by decide) (px_sn (by decide) hmo_12))))))))))) (px_sn (by decide) (px_sn (by decide) (px_sn (by decide) (px_sn (by decide) (px_sn (by decide) (px_sn (by decide) (px_sn (by decide) (px_sn (by decide) (px_sn (by decide) (px_sn (by decide) (px_sn (by decide) hmo_13)))))))))))) (cwV 0 hg (px_gV q_7_91 q_7_93 q_p_60 q_1_15 q_7_94) rfl rfl rfl (by decide +kernel) ⟨Nat.le_of_ble_eq_true rfl, Nat.le_of_ble_eq_true rfl⟩) (px_preV hK hPc_2 hDc_2 (ci := 11) (q0 := 0) rfl rfl) rfl rfl hl.1 rfl (lv_room (Nat.le_of_ble_eq_true rfl)) dX11_sentence_43 ⟨Nat.le_of_ble_eq_true rfl, Nat.le_of_ble_eq_true rfl⟩) hS (fun q _ h => hFc_2 q h) hFc_2 (fun u_2 t_2 H1 locs ht_2 hvm_2 hw_2 hB_2 hz_2 hk_2 hS => ?_)
  refine W.cs (cells' := 0) (slots' := 0) rfl rfl ?_
  obtain ⟨hP1_2, hD1_2⟩ := hB_2
  rw [ht_2] at hP1_2
  obtain ⟨hP, hD⟩ := va_join (wr := []) (w1 := [(mo, .inr (11, ((((((((((((((fmo.set 0 (.int 0)).set 3 (.int 0)).set 2 (.int 0)).set 4 (.int 0)).set 5 (.int 200)).set 15 (.int 0)).set 56 (.int 0)).set 57 (.int 0)).set 58 (.int 0)).set 59 (.int 1)).set 60 (.int 0)).set 12 (.int 0)).set 13 (.int 0)).set 11 (.int 0))))]) hP hD [0] [] rfl rfl (by decide) (by decide) hk_2 hFc_2 hP1_2 hD1_2
  generalize H1 = H at hP hS ⊢
  have hP : va_P D vwCl [(mo, .inr (11, ((((((((((((((fmo.set 0 (.int 0)).set 3 (.int 0)).set 2 (.int 0)).set 4 (.int 0)).set 5 (.int 200)).set 15 (.int 0)).set 56 (.int 0)).set 57 (.int 0)).set 58 (.int 0)).set 59 (.int 1)).set 60 (.int 0)).set 12 (.int 0)).set 13 (.int 0)).set 11 (.int 0))))] H := hP
  have hD : va_D A [(mo, .inr (11, ((((((((((((((fmo.set 0 (.int 0)).set 3 (.int 0)).set 2 (.int 0)).set 4 (.int 0)).set 5 (.int 200)).set 15 (.int 0)).set 56 (.int 0)).set 57 (.int 0)).set 58 (.int 0)).set 59 (.int 1)).set 60 (.int 0)).set 12 (.int 0)).set 13 (.int 0)).set 11 (.int 0))))] := hD
  refine lv_iconst (v := 1) hx hb dX11_sentence_46 (by decide) ?_
  refine lv_istore_n (lv' := [(1, .int 1), (0, .ref mo)]) hx hb dX11_sentence_47 rfl hl (by decide) rfl (fun ls hl => ?_)
  refine lv_iload_n hx hb dX11_sentence_48 rfl (lv_at hl 0 rfl) ?_
  refine lv_if_eq (tgt := 132) hx hb dX11_sentence_49 (by decide) (fun c_3 => absurd c_3 (by decide)) (fun _ => ?_)
  refine lv_aload_n hx hb dX11_sentence_52 rfl (lv_at hl 1 rfl) ?_
  refine va_get (D := D) (ci := 11) (v := .int 0) (C := RX11) (T := TX11) (N := 65) hx hb hg inGX11 hown hK hP 0 rfl rfl 60 (by decide) (hg _ q_6_186) (fun _ h9 => h9) (px_sn (by decide) (px_sn (by decide) (px_sn (by decide) (px_ss (px_sn (by decide) (px_sn (by decide) (px_sn (by decide) (px_sn (by decide) (px_sn (by decide) (px_sn (by decide) (px_sn (by decide) (px_sn (by decide) (px_sn (by decide) (px_sn (by decide) hmo_60)))))))))))))) dX11_sentence_53 ?_
  refine lv_if_eq (tgt := 101) hx hb dX11_sentence_56 (by decide) (fun _ => ?_) (fun c_4 => absurd c_4 (by decide))
  refine lv_aload_n hx hb dX11_sentence_101 rfl (lv_at hl 1 rfl) ?_
  refine va_get (D := D) (ci := 11) (v := .int 0) (C := RX11) (T := TX11) (N := 65) hx hb hg inGX11 hown hK hP 0 rfl rfl 60 (by decide) (hg _ q_6_186) (fun _ h9 => h9) (px_sn (by decide) (px_sn (by decide) (px_sn (by decide) (px_ss (px_sn (by decide) (px_sn (by decide) (px_sn (by decide) (px_sn (by decide) (px_sn (by decide) (px_sn (by decide) (px_sn (by decide) (px_sn (by decide) (px_sn (by decide) (px_sn (by decide) hmo_60)))))))))))))) dX11_sentence_102 ?_
  refine lv_if_eq (tgt := 118) hx hb dX11_sentence_105 (by decide) (fun _ => ?_) (fun c_5 => absurd c_5 (by decide))
  refine lv_aload_n hx hb dX11_sentence_118 rfl (lv_at hl 1 rfl) ?_
  have hPc_6 := hP.sub (ws' := [(mo, .inr (11, ((((((((((((((fmo.set 0 (.int 0)).set 3 (.int 0)).set 2 (.int 0)).set 4 (.int 0)).set 5 (.int 200)).set 15 (.int 0)).set 56 (.int 0)).set 57 (.int 0)).set 58 (.int 0)).set 59 (.int 1)).set 60 (.int 0)).set 12 (.int 0)).set 13 (.int 0)).set 11 (.int 0))))]) [0] rfl
  have hDc_6 := hD.sub (ws' := [(mo, .inr (11, ((((((((((((((fmo.set 0 (.int 0)).set 3 (.int 0)).set 2 (.int 0)).set 4 (.int 0)).set 5 (.int 200)).set 15 (.int 0)).set 56 (.int 0)).set 57 (.int 0)).set 58 (.int 0)).set 59 (.int 1)).set 60 (.int 0)).set 12 (.int 0)).set 13 (.int 0)).set 11 (.int 0))))]) [0] (by decide) rfl
  have hFc_6 := va_free (wc := [(mo, .inr (11, ((((((((((((((fmo.set 0 (.int 0)).set 3 (.int 0)).set 2 (.int 0)).set 4 (.int 0)).set 5 (.int 200)).set 15 (.int 0)).set 56 (.int 0)).set 57 (.int 0)).set 58 (.int 0)).set 59 (.int 1)).set 60 (.int 0)).set 12 (.int 0)).set 13 (.int 0)).set 11 (.int 0))))]) hD hS hA [0] rfl
  refine va_calli (va_runV (As := []) (rest := []) ⟨hx, hb, hml, hown, hg⟩ (c_X11_operand l D y H.size mo ((((((((((((((fmo.set 0 (.int 0)).set 3 (.int 0)).set 2 (.int 0)).set 4 (.int 0)).set 5 (.int 200)).set 15 (.int 0)).set 56 (.int 0)).set 57 (.int 0)).set 58 (.int 0)).set 59 (.int 1)).set 60 (.int 0)).set 12 (.int 0)).set 13 (.int 0)).set 11 (.int 0)) (px_ss (px_sn (by decide) (px_sn (by decide) (px_sn (by decide) (px_sn (by decide) (px_sn (by decide) (px_sn (by decide) (px_sn (by decide) (px_sn (by decide) (px_sn (by decide) (px_sn (by decide) (px_sn (by decide) (px_sn (by decide) (px_sn (by decide) hmo_11)))))))))))))) (px_sn (by decide) (px_sn (by decide) (px_ss (px_sn (by decide) (px_sn (by decide) (px_sn (by decide) (px_sn (by decide) (px_sn (by decide) (px_sn (by decide) (px_sn (by decide) (px_sn (by decide) (px_sn (by decide) (px_sn (by decide) (px_sn (by decide) hmo_12)))))))))))))) (px_sn (by decide) (px_sn (by decide) (px_sn (by decide) (px_sn (by decide) (px_sn (by decide) (px_sn (by decide) (px_sn (by decide) (px_sn (by decide) (px_ss (px_sn (by decide) (px_sn (by decide) (px_sn (by decide) (px_sn (by decide) (px_sn (by decide) hmo_15)))))))))))))) (px_sn (by decide) (px_sn (by decide) (px_sn (by decide) (px_sn (by decide) (px_sn (by decide) (px_sn (by decide) (px_sn (by decide) (px_sn (by decide) (px_sn (by decide) (px_sn (by decide) (px_sn (by decide) (px_sn (by decide) (px_sn (by decide) (px_sn (by decide) hmo_16))))))))))))))) (cwV 0 hg (px_gV q_8_224 q_8_226 q_p_116 q_1_15 q_8_227) rfl rfl rfl (by decide +kernel) ⟨Nat.le_of_ble_eq_true rfl, Nat.le_of_ble_eq_true rfl⟩) (px_preV hK hPc_6 hDc_6 (ci := 11) (q0 := 0) rfl rfl) rfl rfl hl.1 rfl (lv_room (Nat.le_of_ble_eq_true rfl)) dX11_sentence_119 ⟨Nat.le_of_ble_eq_true rfl, Nat.le_of_ble_eq_true rfl⟩) hS (fun q _ h => hFc_6 q h) hFc_6 (fun r_6 u_6 t_6 H1 locs ht_6 hvm_6 hw_6 hB_6 hz_6 hk_6 hS => ?_)
  refine W.cs (cells' := 0) (slots' := 0) rfl rfl ?_
  obtain ⟨hP1_6, hD1_6⟩ := hB_6
  rw [ht_6] at hP1_6
  obtain ⟨hP, hD⟩ := va_join (wr := []) (w1 := [(mo, .inr (11, ((((((((((((((((fmo.set 0 (.int 0)).set 3 (.int 0)).set 2 (.int 0)).set 4 (.int 0)).set 5 (.int 200)).set 15 (.int 0)).set 56 (.int 0)).set 57 (.int 0)).set 58 (.int 0)).set 59 (.int 1)).set 60 (.int 0)).set 12 (.int 0)).set 13 (.int 0)).set 11 (.int 0)).set 15 (.int 1)).set 16 (.int 0))))]) hP hD [0] [] rfl rfl (by decide) (by decide) hk_6 hFc_6 hP1_6 hD1_6
  generalize H1 = H at hP hS ⊢
  have hP : va_P D vwCl [(mo, .inr (11, ((((((((((((((((fmo.set 0 (.int 0)).set 3 (.int 0)).set 2 (.int 0)).set 4 (.int 0)).set 5 (.int 200)).set 15 (.int 0)).set 56 (.int 0)).set 57 (.int 0)).set 58 (.int 0)).set 59 (.int 1)).set 60 (.int 0)).set 12 (.int 0)).set 13 (.int 0)).set 11 (.int 0)).set 15 (.int 1)).set 16 (.int 0))))] H := hP
  have hD : va_D A [(mo, .inr (11, ((((((((((((((((fmo.set 0 (.int 0)).set 3 (.int 0)).set 2 (.int 0)).set 4 (.int 0)).set 5 (.int 200)).set 15 (.int 0)).set 56 (.int 0)).set 57 (.int 0)).set 58 (.int 0)).set 59 (.int 1)).set 60 (.int 0)).set 12 (.int 0)).set 13 (.int 0)).set 11 (.int 0)).set 15 (.int 1)).set 16 (.int 0))))] := hD
  obtain rfl : r_6 = 0 := hw_6
  refine lv_if_ne (tgt := 48) hx hb dX11_sentence_122 (by decide) (fun c_7 => absurd c_7 (by decide)) (fun _ => ?_)
  refine lv_iconst (v := (-1)) hx hb dX11_sentence_125 (by decide) ?_
  refine lv_aload_n hx hb dX11_sentence_126 rfl (lv_at hl 1 rfl) ?_
  refine va_get (D := D) (ci := 11) (v := .int 0) (C := RX11) (T := TX11) (N := 65) hx hb hg inGX11 hown hK hP 0 rfl rfl 16 (by decide) (hg _ q_6_142) (fun _ h9 => h9) (px_ss (px_sn (by decide) (px_sn (by decide) (px_sn (by decide) (px_sn (by decide) (px_sn (by decide) (px_sn (by decide) (px_sn (by decide) (px_sn (by decide) (px_sn (by decide) (px_sn (by decide) (px_sn (by decide) (px_sn (by decide) (px_sn (by decide) (px_sn (by decide) (px_sn (by decide) hmo_16)))))))))))))))) dX11_sentence_127 ?_
  refine lv_isub hx hb dX11_sentence_130 ?_
  refine px_top (v := (-1)) (by decide) ?_
  exact W.iret (v := (-1)) hx hb hr (fun t ht hW => ⟨⟨_, (), rfl, rfl, trivial⟩, by subst hAe; exact hS.F ht⟩) (fun q h => by subst hAe; exact hS.2.2 q h) dX11_sentence_131

set_option maxHeartbeats 4000000 in
set_option maxRecDepth 100000 in
theorem c_X11_settles (l : Launch) (D : va_G) (y : Nat → ClassId) (sz : Nat) (mo : Nat) (fmo : List Value) (ms : Nat) (fms : Nat → Int32) (hmo_6 : fmo[6]? = some (.ref ms)) (hms_e1 : fms 1 = 0) : Met l yX11_settles (px_w yX11_settles cX11_settles 4 none) ({ frames := 0, cells := 0, slots := 0, locals := 0 }) (va_Pc [.ref mo, .int 0] (px_P D y sz [(mo, .inr (11, fmo)), (ms, .inl (y 1, 765, .inl fms))])) (va_Qv (fun (u : px_U) => True) (fun (u : px_U) t => va_P D vwCl [(mo, .inr (11, fmo)), (ms, .inl (y 1, 765, .inl (u.2.1 0)))] t.heap ∧ va_D (va_A [(mo, .inr (11, fmo)), (ms, .inl (y 1, 765, .inl fms))] sz) [(mo, .inr (11, fmo)), (ms, .inl (y 1, 765, .inl (u.2.1 0)))]) (va_A [(mo, .inr (11, fmo)), (ms, .inl (y 1, 765, .inl fms))] sz)) 0 0 (va_A [(mo, .inr (11, fmo)), (ms, .inl (y 1, 765, .inl fms))] sz) := by
  refine Met.ofW (cc := cX11_settles) (maxL := 4) (ret := none) (by decide) rfl ?_
  intro p e s m args below meth c s₁ B hml hv
  obtain ⟨rfl, hsz, hP, hK, hD0⟩ := hv
  have hx := B.exec
  have hb := B.bytes
  have hr := B.returns
  have hts := atoms_spec (ws := px_w yX11_settles cX11_settles 4 none) B.pre
  have hg : ∀ w ∈ gw, w.before [.ref mo, .int 0].toArray s = true := fun w h => hts w (List.mem_cons_of_mem _ h)
  have hown : s.vm.findClass RX11 = some m.cls := findClass_of_methodNamed B.named
  have hlocks := B.notSynchronized
  subst hsz
  have hD := hD0.self (sz := s.heap.size)
  generalize hAe : va_A [(mo, .inr (11, fmo)), (ms, .inl (y 1, 765, .inl fms))] s.heap.size = A at hD ⊢
  have hA : ∀ q : Nat, s.heap.size ≤ q → A q := fun q h => by rw [← hAe]; exact Or.inr h
  have hS : va_S A s.heap s.heap [] := va_S.rf
  have hP : va_P D vwCl [(mo, .inr (11, fmo)), (ms, .inl (y 1, 765, .inl fms))] s.heap := hP
  have hl := lv_entry ([.ref mo, .int 0]) (n := 4) (Nat.le_of_ble_eq_true rfl)
  rw [lg_entry_eq]
  generalize (lg_sl ([.ref mo, .int 0]) ++ List.replicate (4 - (lg_sl ([.ref mo, .int 0])).length) Slot.unset).toArray = ls at hl ⊢
  have hl : lv_has ls 4 [(0, .ref mo), (1, .int 0)] := hl
  refine lv_aload_n hx hb dX11_settles_0 rfl (lv_at hl 0 rfl) ?_
  refine va_get (D := D) (ci := 11) (v := .ref ms) (C := RX11) (T := TX11) (N := 65) hx hb hg inGX11 hown hK hP 0 rfl rfl 6 (by decide) (hg _ q_6_132) (fun _ h9 => h9) hmo_6 dX11_settles_1 ?_
  refine lv_iconst (v := 4) hx hb dX11_settles_4 (by decide) ?_
  refine lv_iconst (v := (-1)) hx hb dX11_settles_5 (by decide) ?_
  refine va_iast hx hb hK hP hD hS 1 1 rfl rfl (i := 4) (px_in (by decide)) dX11_settles_6 (fun H locs hP hD hS => ?_)
  have hP : va_P D vwCl [(mo, .inr (11, fmo)), (ms, .inl (y 1, 765, .inl (upd fms 4 (-1))))] H := hP
  have hD : va_D A [(mo, .inr (11, fmo)), (ms, .inl (y 1, 765, .inl (upd fms 4 (-1))))] := hD
  refine lv_iconst (v := 0) hx hb dX11_settles_7 (by decide) ?_
  refine lv_istore_n (lv' := [(2, .int 0), (0, .ref mo), (1, .int 0)]) hx hb dX11_settles_8 rfl hl (by decide) rfl (fun ls hl => ?_)
  refine lv_iload_n hx hb dX11_settles_9 rfl (lv_at hl 0 rfl) ?_
  refine lv_aload_n hx hb dX11_settles_10 rfl (lv_at hl 1 rfl) ?_
  refine va_get (D := D) (ci := 11) (v := .ref ms) (C := RX11) (T := TX11) (N := 65) hx hb hg inGX11 hown hK hP 0 rfl rfl 6 (by decide) (hg _ q_6_132) (fun _ h9 => h9) hmo_6 dX11_settles_11 ?_
  refine lv_iconst (v := 1) hx hb dX11_settles_14 (by decide) ?_
  refine va_iald hx hb hK hP 1 1 rfl rfl (i := 1) (px_in (by decide)) dX11_settles_15 ?_
  refine px_top (v := 0) (Eq.trans (if_neg (by decide)) hms_e1) ?_
  refine lv_icmp_ge (tgt := 60) hx hb dX11_settles_16 (by decide) (fun _ => ?_) (fun c_1 => absurd c_1 (by decide))
  have hP9 := hP.sub (ws' := [(mo, .inr (11, fmo)), (ms, .inl (y 1, 765, .inl (upd fms 4 (-1))))]) [0, 1] rfl
  have hD9 := hD.sub (ws' := [(mo, .inr (11, fmo)), (ms, .inl (y 1, 765, .inl (upd fms 4 (-1))))]) [0, 1] (by decide) rfl
  exact W.vret hx hb hr (fun t ht hW => ⟨⟨(px_v [], px_vi [(upd fms 4 (-1))], px_vl []), rfl, trivial, by rw [ht]; exact hP9, by subst hAe; exact hD9⟩, by subst hAe; exact hS.F ht⟩) (fun q h => by subst hAe; exact hS.2.2 q h) dX11_settles_60

set_option maxHeartbeats 4000000 in
set_option maxRecDepth 100000 in
theorem c_X11_begins (l : Launch) (D : va_G) (y : Nat → ClassId) (sz : Nat) (mo : Nat) (fmo : List Value) (ms : Nat) (fms : Nat → Int32) (hmo_6 : fmo[6]? = some (.ref ms)) (hms_e1 : fms 1 = 0) : Met l yX11_begins (px_w yX11_begins cX11_begins 4 none) ({ frames := 1, cells := 0, slots := 0, locals := 23 }) (va_Pc [.ref mo] (px_P D y sz [(mo, .inr (11, fmo)), (ms, .inl (y 1, 765, .inl fms))])) (va_Qv (fun (u : px_U) => True) (fun (u : px_U) t => va_P D vwCl [(mo, .inr (11, fmo)), (ms, .inl (y 1, 765, .inl (u.2.1 0)))] t.heap ∧ va_D (va_A [(mo, .inr (11, fmo)), (ms, .inl (y 1, 765, .inl fms))] sz) [(mo, .inr (11, fmo)), (ms, .inl (y 1, 765, .inl (u.2.1 0)))]) (va_A [(mo, .inr (11, fmo)), (ms, .inl (y 1, 765, .inl fms))] sz)) 0 0 (va_A [(mo, .inr (11, fmo)), (ms, .inl (y 1, 765, .inl fms))] sz) := by
  refine Met.ofW (cc := cX11_begins) (maxL := 4) (ret := none) (by decide) rfl ?_
  intro p e s m args below meth c s₁ B hml hv
  obtain ⟨rfl, hsz, hP, hK, hD0⟩ := hv
  have hx := B.exec
  have hb := B.bytes
  have hr := B.returns
  have hts := atoms_spec (ws := px_w yX11_begins cX11_begins 4 none) B.pre
  have hg : ∀ w ∈ gw, w.before [.ref mo].toArray s = true := fun w h => hts w (List.mem_cons_of_mem _ h)
  have hown : s.vm.findClass RX11 = some m.cls := findClass_of_methodNamed B.named
  have hlocks := B.notSynchronized
  subst hsz
  have hD := hD0.self (sz := s.heap.size)
  generalize hAe : va_A [(mo, .inr (11, fmo)), (ms, .inl (y 1, 765, .inl fms))] s.heap.size = A at hD ⊢
  have hA : ∀ q : Nat, s.heap.size ≤ q → A q := fun q h => by rw [← hAe]; exact Or.inr h
  have hS : va_S A s.heap s.heap [] := va_S.rf
  have hP : va_P D vwCl [(mo, .inr (11, fmo)), (ms, .inl (y 1, 765, .inl fms))] s.heap := hP
  have hl := lv_entry ([.ref mo]) (n := 4) (Nat.le_of_ble_eq_true rfl)
  rw [lg_entry_eq]
  generalize (lg_sl ([.ref mo]) ++ List.replicate (4 - (lg_sl ([.ref mo])).length) Slot.unset).toArray = ls at hl ⊢
  have hl : lv_has ls 4 [(0, .ref mo)] := hl
  refine lv_iconst (v := 0) hx hb dX11_begins_0 (by decide) ?_
  refine lv_istore_n (lv' := [(1, .int 0), (0, .ref mo)]) hx hb dX11_begins_1 rfl hl (by decide) rfl (fun ls hl => ?_)
  refine lv_iload_n hx hb dX11_begins_2 rfl (lv_at hl 0 rfl) ?_
  refine lv_aload_n hx hb dX11_begins_3 rfl (lv_at hl 1 rfl) ?_
  refine va_get (D := D) (ci := 11) (v := .ref ms) (C := RX11) (T := TX11) (N := 65) hx hb hg inGX11 hown hK hP 0 rfl rfl 6 (by decide) (hg _ q_6_132) (fun _ h9 => h9) hmo_6 dX11_begins_4 ?_
  refine lv_iconst (v := 1) hx hb dX11_begins_7 (by decide) ?_
  refine va_iald hx hb hK hP 1 1 rfl rfl (i := 1) (px_in (by decide)) dX11_begins_8 ?_
  refine px_top (v := 0) hms_e1 ?_
  refine lv_icmp_ge (tgt := 43) hx hb dX11_begins_9 (by decide) (fun _ => ?_) (fun c_1 => absurd c_1 (by decide))
  refine lv_iconst (v := 0) hx hb dX11_begins_43 (by decide) ?_
  refine lv_istore_n (lv' := [(1, .int 0), (0, .ref mo)]) hx hb dX11_begins_44 rfl hl (by decide) rfl (fun ls hl => ?_)
  refine lv_iload_n hx hb dX11_begins_45 rfl (lv_at hl 0 rfl) ?_
  refine lv_aload_n hx hb dX11_begins_46 rfl (lv_at hl 1 rfl) ?_
  refine va_get (D := D) (ci := 11) (v := .ref ms) (C := RX11) (T := TX11) (N := 65) hx hb hg inGX11 hown hK hP 0 rfl rfl 6 (by decide) (hg _ q_6_132) (fun _ h9 => h9) hmo_6 dX11_begins_47 ?_
  refine lv_iconst (v := 1) hx hb dX11_begins_50 (by decide) ?_
  refine va_iald hx hb hK hP 1 1 rfl rfl (i := 1) (px_in (by decide)) dX11_begins_51 ?_
  refine px_top (v := 0) hms_e1 ?_
  refine lv_icmp_ge (tgt := 86) hx hb dX11_begins_52 (by decide) (fun _ => ?_) (fun c_2 => absurd c_2 (by decide))
  refine lv_aload_n hx hb dX11_begins_86 rfl (lv_at hl 1 rfl) ?_
  refine lv_iconst (v := 0) hx hb dX11_begins_87 (by decide) ?_
  have hPc_3 := hP.sub (ws' := [(mo, .inr (11, fmo)), (ms, .inl (y 1, 765, .inl fms))]) [0, 1] rfl
  have hDc_3 := hD.sub (ws' := [(mo, .inr (11, fmo)), (ms, .inl (y 1, 765, .inl fms))]) [0, 1] (by decide) rfl
  have hFc_3 := va_free (wc := [(mo, .inr (11, fmo)), (ms, .inl (y 1, 765, .inl fms))]) hD hS hA [0, 1] rfl
  refine va_callv (va_runV (As := [.int 0]) (rest := []) ⟨hx, hb, hml, hown, hg⟩ (c_X11_settles l D y s.heap.size mo fmo ms fms hmo_6 hms_e1) (cwV 1 hg (px_gV q_7_175 q_7_177 q_p_78 q_1_15 q_7_178) rfl rfl rfl (by decide +kernel) ⟨Nat.le_of_ble_eq_true rfl, Nat.le_of_ble_eq_true rfl⟩) (px_preV hK hPc_3 hDc_3 (ci := 11) (q0 := 0) rfl rfl) rfl rfl hl.1 rfl (lv_room (Nat.le_of_ble_eq_true rfl)) dX11_begins_88 ⟨Nat.le_of_ble_eq_true rfl, Nat.le_of_ble_eq_true rfl⟩) hS (fun q _ h => hFc_3 q h) hFc_3 (fun u_3 t_3 H1 locs ht_3 hvm_3 hw_3 hB_3 hz_3 hk_3 hS => ?_)
  refine W.cs (cells' := 0) (slots' := 0) rfl rfl ?_
  obtain ⟨hP1_3, hD1_3⟩ := hB_3
  rw [ht_3] at hP1_3
  obtain ⟨hP, hD⟩ := va_join (wr := []) (w1 := [(mo, .inr (11, fmo)), (ms, .inl (y 1, 765, .inl (u_3.2.1 0)))]) hP hD [0, 1] [] rfl rfl (by decide) (by decide) hk_3 hFc_3 hP1_3 hD1_3
  generalize H1 = H at hP hS ⊢
  have hP : va_P D vwCl [(mo, .inr (11, fmo)), (ms, .inl (y 1, 765, .inl (u_3.2.1 0)))] H := hP
  have hD : va_D A [(mo, .inr (11, fmo)), (ms, .inl (y 1, 765, .inl (u_3.2.1 0)))] := hD
  have hP9 := hP.sub (ws' := [(mo, .inr (11, fmo)), (ms, .inl (y 1, 765, .inl (u_3.2.1 0)))]) [0, 1] rfl
  have hD9 := hD.sub (ws' := [(mo, .inr (11, fmo)), (ms, .inl (y 1, 765, .inl (u_3.2.1 0)))]) [0, 1] (by decide) rfl
  exact W.vret hx hb hr (fun t ht hW => ⟨⟨(px_v [], px_vi [(u_3.2.1 0)], px_vl []), rfl, trivial, by rw [ht]; exact hP9, by subst hAe; exact hD9⟩, by subst hAe; exact hS.F ht⟩) (fun q h => by subst hAe; exact hS.2.2 q h) dX11_begins_91
end
