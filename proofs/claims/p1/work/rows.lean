section
-- ===== PART A: goes FIRST, ahead of the names: the tables' words, and 'selects' of the private methods out of them =====
/-- a private method of a class that the tables say can be made, by its rows of tables_1 -/
def lw_okq (q : MethodName × Nat) : Prop := (q.1.cls ≠ "java/lang/invoke/MethodHandle" ∧ q.1.cls ≠ "java/lang/invoke/VarHandle") ∧ Cond.instantiable q.1.cls q.2 ∈ tables_1 ∧ Cond.privateMethod q.1 ∈ tables_1 ∧ Cond.instanceMethod q.1 ∈ tables_1
theorem lw_p0 : lw_okq (⟨"NameFall", "putBytes", "(I)V"⟩, 11) := ⟨⟨by decide +kernel, by decide +kernel⟩, List.mem_of_getElem? (i := 21) (by decide +kernel), List.mem_of_getElem? (i := 499) (by decide +kernel), List.mem_of_getElem? (i := 500) (by decide +kernel)⟩
theorem lw_p1 : lw_okq (⟨"NameFall$Scanner", "skipBlanks", "(I)I"⟩, 9) := ⟨⟨by decide +kernel, by decide +kernel⟩, List.mem_of_getElem? (i := 275) (by decide +kernel), List.mem_of_getElem? (i := 549) (by decide +kernel), List.mem_of_getElem? (i := 550) (by decide +kernel)⟩
theorem lw_p2 : lw_okq (⟨"NameFall$Scanner", "takeWord", "()V"⟩, 9) := ⟨⟨by decide +kernel, by decide +kernel⟩, List.mem_of_getElem? (i := 275) (by decide +kernel), List.mem_of_getElem? (i := 556) (by decide +kernel), List.mem_of_getElem? (i := 557) (by decide +kernel)⟩
theorem lw_p3 : lw_okq (⟨"NameFall$Scanner", "takeNumber", "()V"⟩, 9) := ⟨⟨by decide +kernel, by decide +kernel⟩, List.mem_of_getElem? (i := 275) (by decide +kernel), List.mem_of_getElem? (i := 566) (by decide +kernel), List.mem_of_getElem? (i := 567) (by decide +kernel)⟩
theorem lw_p4 : lw_okq (⟨"NameFall$Reader", "refuse", "(I)Z"⟩, 5) := ⟨⟨by decide +kernel, by decide +kernel⟩, List.mem_of_getElem? (i := 273) (by decide +kernel), List.mem_of_getElem? (i := 574) (by decide +kernel), List.mem_of_getElem? (i := 575) (by decide +kernel)⟩
theorem lw_p5 : lw_okq (⟨"NameFall$Reader", "hasRoom", "(II)Z"⟩, 5) := ⟨⟨by decide +kernel, by decide +kernel⟩, List.mem_of_getElem? (i := 273) (by decide +kernel), List.mem_of_getElem? (i := 578) (by decide +kernel), List.mem_of_getElem? (i := 579) (by decide +kernel)⟩
theorem lw_p6 : lw_okq (⟨"NameFall$Reader", "readPlace", "(LNameFall$Places;)Z"⟩, 5) := ⟨⟨by decide +kernel, by decide +kernel⟩, List.mem_of_getElem? (i := 273) (by decide +kernel), List.mem_of_getElem? (i := 583) (by decide +kernel), List.mem_of_getElem? (i := 584) (by decide +kernel)⟩
theorem lw_p7 : lw_okq (⟨"NameFall$Reader", "takeNewName", "([JI)Z"⟩, 5) := ⟨⟨by decide +kernel, by decide +kernel⟩, List.mem_of_getElem? (i := 273) (by decide +kernel), List.mem_of_getElem? (i := 587) (by decide +kernel), List.mem_of_getElem? (i := 588) (by decide +kernel)⟩
theorem lw_p8 : lw_okq (⟨"NameFall$Reader", "takeName", "()Z"⟩, 5) := ⟨⟨by decide +kernel, by decide +kernel⟩, List.mem_of_getElem? (i := 273) (by decide +kernel), List.mem_of_getElem? (i := 592) (by decide +kernel), List.mem_of_getElem? (i := 593) (by decide +kernel)⟩
theorem lw_p9 : lw_okq (⟨"NameFall$Reader", "takeKeyword", "(I)Z"⟩, 5) := ⟨⟨by decide +kernel, by decide +kernel⟩, List.mem_of_getElem? (i := 273) (by decide +kernel), List.mem_of_getElem? (i := 596) (by decide +kernel), List.mem_of_getElem? (i := 597) (by decide +kernel)⟩
theorem lw_p10 : lw_okq (⟨"NameFall$Reader", "takeChoice", "(II)Z"⟩, 5) := ⟨⟨by decide +kernel, by decide +kernel⟩, List.mem_of_getElem? (i := 273) (by decide +kernel), List.mem_of_getElem? (i := 600) (by decide +kernel), List.mem_of_getElem? (i := 601) (by decide +kernel)⟩
theorem lw_p11 : lw_okq (⟨"NameFall$Reader", "takeNumber", "(II)Z"⟩, 5) := ⟨⟨by decide +kernel, by decide +kernel⟩, List.mem_of_getElem? (i := 273) (by decide +kernel), List.mem_of_getElem? (i := 604) (by decide +kernel), List.mem_of_getElem? (i := 605) (by decide +kernel)⟩
theorem lw_p12 : lw_okq (⟨"NameFall$Reader", "takeSign", "()Z"⟩, 5) := ⟨⟨by decide +kernel, by decide +kernel⟩, List.mem_of_getElem? (i := 273) (by decide +kernel), List.mem_of_getElem? (i := 608) (by decide +kernel), List.mem_of_getElem? (i := 609) (by decide +kernel)⟩
theorem lw_p13 : lw_okq (⟨"NameFall$Reader", "readMeaning", "(LNameFall$Meanings;)Z"⟩, 5) := ⟨⟨by decide +kernel, by decide +kernel⟩, List.mem_of_getElem? (i := 273) (by decide +kernel), List.mem_of_getElem? (i := 612) (by decide +kernel), List.mem_of_getElem? (i := 613) (by decide +kernel)⟩
theorem lw_p14 : lw_okq (⟨"NameFall$Reader", "readWord", "(LNameFall$Land;)Z"⟩, 5) := ⟨⟨by decide +kernel, by decide +kernel⟩, List.mem_of_getElem? (i := 273) (by decide +kernel), List.mem_of_getElem? (i := 616) (by decide +kernel), List.mem_of_getElem? (i := 617) (by decide +kernel)⟩
theorem lw_p15 : lw_okq (⟨"NameFall$Reader", "takeKnownName", "([JII)Z"⟩, 5) := ⟨⟨by decide +kernel, by decide +kernel⟩, List.mem_of_getElem? (i := 273) (by decide +kernel), List.mem_of_getElem? (i := 620) (by decide +kernel), List.mem_of_getElem? (i := 621) (by decide +kernel)⟩
def lw_privs_1 : List (MethodName × Nat) := [(⟨"NameFall", "putBytes", "(I)V"⟩, 11), (⟨"NameFall$Scanner", "skipBlanks", "(I)I"⟩, 9), (⟨"NameFall$Scanner", "takeWord", "()V"⟩, 9), (⟨"NameFall$Scanner", "takeNumber", "()V"⟩, 9), (⟨"NameFall$Reader", "refuse", "(I)Z"⟩, 5), (⟨"NameFall$Reader", "hasRoom", "(II)Z"⟩, 5), (⟨"NameFall$Reader", "readPlace", "(LNameFall$Places;)Z"⟩, 5), (⟨"NameFall$Reader", "takeNewName", "([JI)Z"⟩, 5), (⟨"NameFall$Reader", "takeName", "()Z"⟩, 5), (⟨"NameFall$Reader", "takeKeyword", "(I)Z"⟩, 5), (⟨"NameFall$Reader", "takeChoice", "(II)Z"⟩, 5), (⟨"NameFall$Reader", "takeNumber", "(II)Z"⟩, 5), (⟨"NameFall$Reader", "takeSign", "()Z"⟩, 5), (⟨"NameFall$Reader", "readMeaning", "(LNameFall$Meanings;)Z"⟩, 5), (⟨"NameFall$Reader", "readWord", "(LNameFall$Land;)Z"⟩, 5), (⟨"NameFall$Reader", "takeKnownName", "([JII)Z"⟩, 5)]
theorem lw_r1 : ∀ q ∈ lw_privs_1, lw_okq q := List.forall_mem_cons.mpr ⟨lw_p0, List.forall_mem_cons.mpr ⟨lw_p1, List.forall_mem_cons.mpr ⟨lw_p2, List.forall_mem_cons.mpr ⟨lw_p3, List.forall_mem_cons.mpr ⟨lw_p4, List.forall_mem_cons.mpr ⟨lw_p5, List.forall_mem_cons.mpr ⟨lw_p6, List.forall_mem_cons.mpr ⟨lw_p7, List.forall_mem_cons.mpr ⟨lw_p8, List.forall_mem_cons.mpr ⟨lw_p9, List.forall_mem_cons.mpr ⟨lw_p10, List.forall_mem_cons.mpr ⟨lw_p11, List.forall_mem_cons.mpr ⟨lw_p12, List.forall_mem_cons.mpr ⟨lw_p13, List.forall_mem_cons.mpr ⟨lw_p14, List.forall_mem_cons.mpr ⟨lw_p15, fun _ h => absurd h List.not_mem_nil⟩⟩⟩⟩⟩⟩⟩⟩⟩⟩⟩⟩⟩⟩⟩⟩
theorem lw_p16 : lw_okq (⟨"NameFall$Reader", "takeRows", "(LNameFall$Places;II)Z"⟩, 5) := ⟨⟨by decide +kernel, by decide +kernel⟩, List.mem_of_getElem? (i := 273) (by decide +kernel), List.mem_of_getElem? (i := 627) (by decide +kernel), List.mem_of_getElem? (i := 628) (by decide +kernel)⟩
theorem lw_p17 : lw_okq (⟨"NameFall$Reader", "readTurn", "(LNameFall$Meanings;)Z"⟩, 5) := ⟨⟨by decide +kernel, by decide +kernel⟩, List.mem_of_getElem? (i := 273) (by decide +kernel), List.mem_of_getElem? (i := 635) (by decide +kernel), List.mem_of_getElem? (i := 636) (by decide +kernel)⟩
theorem lw_p18 : lw_okq (⟨"NameFall$Reader", "readPerson", "(LNameFall$Land;)Z"⟩, 5) := ⟨⟨by decide +kernel, by decide +kernel⟩, List.mem_of_getElem? (i := 273) (by decide +kernel), List.mem_of_getElem? (i := 639) (by decide +kernel), List.mem_of_getElem? (i := 640) (by decide +kernel)⟩
theorem lw_p19 : lw_okq (⟨"NameFall$Reader", "takeParents", "(LNameFall$Persons;)Z"⟩, 5) := ⟨⟨by decide +kernel, by decide +kernel⟩, List.mem_of_getElem? (i := 273) (by decide +kernel), List.mem_of_getElem? (i := 643) (by decide +kernel), List.mem_of_getElem? (i := 644) (by decide +kernel)⟩
theorem lw_p20 : lw_okq (⟨"NameFall$Reader", "readTalk", "(LNameFall$Persons;)Z"⟩, 5) := ⟨⟨by decide +kernel, by decide +kernel⟩, List.mem_of_getElem? (i := 273) (by decide +kernel), List.mem_of_getElem? (i := 647) (by decide +kernel), List.mem_of_getElem? (i := 648) (by decide +kernel)⟩
theorem lw_p21 : lw_okq (⟨"NameFall$Land", "noteSounds", "(J[II)V"⟩, 5) := ⟨⟨by decide +kernel, by decide +kernel⟩, List.mem_of_getElem? (i := 29) (by decide +kernel), List.mem_of_getElem? (i := 668) (by decide +kernel), List.mem_of_getElem? (i := 669) (by decide +kernel)⟩
theorem lw_p22 : lw_okq (⟨"NameFall", "isPerson", "(I)Z"⟩, 11) := ⟨⟨by decide +kernel, by decide +kernel⟩, List.mem_of_getElem? (i := 21) (by decide +kernel), List.mem_of_getElem? (i := 695) (by decide +kernel), List.mem_of_getElem? (i := 696) (by decide +kernel)⟩
theorem lw_p23 : lw_okq (⟨"NameFall$Falls", "endOfFall", "(II)I"⟩, 7) := ⟨⟨by decide +kernel, by decide +kernel⟩, List.mem_of_getElem? (i := 245) (by decide +kernel), List.mem_of_getElem? (i := 739) (by decide +kernel), List.mem_of_getElem? (i := 740) (by decide +kernel)⟩
theorem lw_p24 : lw_okq (⟨"NameFall$Falls", "liftingYear", "(II)I"⟩, 7) := ⟨⟨by decide +kernel, by decide +kernel⟩, List.mem_of_getElem? (i := 245) (by decide +kernel), List.mem_of_getElem? (i := 743) (by decide +kernel), List.mem_of_getElem? (i := 744) (by decide +kernel)⟩
theorem lw_p25 : lw_okq (⟨"NameFall", "isWord", "(I)Z"⟩, 11) := ⟨⟨by decide +kernel, by decide +kernel⟩, List.mem_of_getElem? (i := 21) (by decide +kernel), List.mem_of_getElem? (i := 761) (by decide +kernel), List.mem_of_getElem? (i := 762) (by decide +kernel)⟩
theorem lw_p26 : lw_okq (⟨"NameFall", "canSpeak", "(IIII)Z"⟩, 11) := ⟨⟨by decide +kernel, by decide +kernel⟩, List.mem_of_getElem? (i := 21) (by decide +kernel), List.mem_of_getElem? (i := 775) (by decide +kernel), List.mem_of_getElem? (i := 776) (by decide +kernel)⟩
theorem lw_p27 : lw_okq (⟨"NameFall$Falls", "binds", "(III)Z"⟩, 7) := ⟨⟨by decide +kernel, by decide +kernel⟩, List.mem_of_getElem? (i := 245) (by decide +kernel), List.mem_of_getElem? (i := 783) (by decide +kernel), List.mem_of_getElem? (i := 784) (by decide +kernel)⟩
theorem lw_p28 : lw_okq (⟨"NameFall$Falls", "wordsOf", "(I)I"⟩, 7) := ⟨⟨by decide +kernel, by decide +kernel⟩, List.mem_of_getElem? (i := 245) (by decide +kernel), List.mem_of_getElem? (i := 788) (by decide +kernel), List.mem_of_getElem? (i := 789) (by decide +kernel)⟩
theorem lw_p29 : lw_okq (⟨"NameFall", "firstBarred", "(II)I"⟩, 11) := ⟨⟨by decide +kernel, by decide +kernel⟩, List.mem_of_getElem? (i := 21) (by decide +kernel), List.mem_of_getElem? (i := 802) (by decide +kernel), List.mem_of_getElem? (i := 803) (by decide +kernel)⟩
theorem lw_p30 : lw_okq (⟨"NameFall", "isMeaning", "(I)Z"⟩, 11) := ⟨⟨by decide +kernel, by decide +kernel⟩, List.mem_of_getElem? (i := 21) (by decide +kernel), List.mem_of_getElem? (i := 810) (by decide +kernel), List.mem_of_getElem? (i := 811) (by decide +kernel)⟩
theorem lw_p31 : lw_okq (⟨"NameFall$Speech", "lowerByTurns", "(LNameFall$Meanings;)V"⟩, 5) := ⟨⟨by decide +kernel, by decide +kernel⟩, List.mem_of_getElem? (i := 415) (by decide +kernel), List.mem_of_getElem? (i := 847) (by decide +kernel), List.mem_of_getElem? (i := 848) (by decide +kernel)⟩
def lw_privs_2 : List (MethodName × Nat) := [(⟨"NameFall$Reader", "takeRows", "(LNameFall$Places;II)Z"⟩, 5), (⟨"NameFall$Reader", "readTurn", "(LNameFall$Meanings;)Z"⟩, 5), (⟨"NameFall$Reader", "readPerson", "(LNameFall$Land;)Z"⟩, 5), (⟨"NameFall$Reader", "takeParents", "(LNameFall$Persons;)Z"⟩, 5), (⟨"NameFall$Reader", "readTalk", "(LNameFall$Persons;)Z"⟩, 5), (⟨"NameFall$Land", "noteSounds", "(J[II)V"⟩, 5), (⟨"NameFall", "isPerson", "(I)Z"⟩, 11), (⟨"NameFall$Falls", "endOfFall", "(II)I"⟩, 7), (⟨"NameFall$Falls", "liftingYear", "(II)I"⟩, 7), (⟨"NameFall", "isWord", "(I)Z"⟩, 11), (⟨"NameFall", "canSpeak", "(IIII)Z"⟩, 11), (⟨"NameFall$Falls", "binds", "(III)Z"⟩, 7), (⟨"NameFall$Falls", "wordsOf", "(I)I"⟩, 7), (⟨"NameFall", "firstBarred", "(II)I"⟩, 11), (⟨"NameFall", "isMeaning", "(I)Z"⟩, 11), (⟨"NameFall$Speech", "lowerByTurns", "(LNameFall$Meanings;)V"⟩, 5)]
theorem lw_r2 : ∀ q ∈ lw_privs_2, lw_okq q := List.forall_mem_cons.mpr ⟨lw_p16, List.forall_mem_cons.mpr ⟨lw_p17, List.forall_mem_cons.mpr ⟨lw_p18, List.forall_mem_cons.mpr ⟨lw_p19, List.forall_mem_cons.mpr ⟨lw_p20, List.forall_mem_cons.mpr ⟨lw_p21, List.forall_mem_cons.mpr ⟨lw_p22, List.forall_mem_cons.mpr ⟨lw_p23, List.forall_mem_cons.mpr ⟨lw_p24, List.forall_mem_cons.mpr ⟨lw_p25, List.forall_mem_cons.mpr ⟨lw_p26, List.forall_mem_cons.mpr ⟨lw_p27, List.forall_mem_cons.mpr ⟨lw_p28, List.forall_mem_cons.mpr ⟨lw_p29, List.forall_mem_cons.mpr ⟨lw_p30, List.forall_mem_cons.mpr ⟨lw_p31, fun _ h => absurd h List.not_mem_nil⟩⟩⟩⟩⟩⟩⟩⟩⟩⟩⟩⟩⟩⟩⟩⟩
theorem lw_p32 : lw_okq (⟨"NameFall", "isPlace", "(I)Z"⟩, 11) := ⟨⟨by decide +kernel, by decide +kernel⟩, List.mem_of_getElem? (i := 21) (by decide +kernel), List.mem_of_getElem? (i := 868) (by decide +kernel), List.mem_of_getElem? (i := 869) (by decide +kernel)⟩
theorem lw_p33 : lw_okq (⟨"NameFall$Falls", "fallsForAll", "(II)Z"⟩, 7) := ⟨⟨by decide +kernel, by decide +kernel⟩, List.mem_of_getElem? (i := 245) (by decide +kernel), List.mem_of_getElem? (i := 876) (by decide +kernel), List.mem_of_getElem? (i := 877) (by decide +kernel)⟩
theorem lw_p34 : lw_okq (⟨"NameFall", "countChanges", "(III)V"⟩, 11) := ⟨⟨by decide +kernel, by decide +kernel⟩, List.mem_of_getElem? (i := 21) (by decide +kernel), List.mem_of_getElem? (i := 892) (by decide +kernel), List.mem_of_getElem? (i := 893) (by decide +kernel)⟩
theorem lw_p35 : lw_okq (⟨"NameFall$Speech", "passes", "(LNameFall$Land;III)Z"⟩, 5) := ⟨⟨by decide +kernel, by decide +kernel⟩, List.mem_of_getElem? (i := 415) (by decide +kernel), List.mem_of_getElem? (i := 909) (by decide +kernel), List.mem_of_getElem? (i := 910) (by decide +kernel)⟩
theorem lw_p36 : lw_okq (⟨"NameFall$Speech", "layWay", "(II)I"⟩, 5) := ⟨⟨by decide +kernel, by decide +kernel⟩, List.mem_of_getElem? (i := 415) (by decide +kernel), List.mem_of_getElem? (i := 914) (by decide +kernel), List.mem_of_getElem? (i := 915) (by decide +kernel)⟩
theorem lw_p37 : lw_okq (⟨"NameFall", "hurtOf", "(II)I"⟩, 11) := ⟨⟨by decide +kernel, by decide +kernel⟩, List.mem_of_getElem? (i := 21) (by decide +kernel), List.mem_of_getElem? (i := 935) (by decide +kernel), List.mem_of_getElem? (i := 936) (by decide +kernel)⟩
theorem lw_p38 : lw_okq (⟨"NameFallModel", "goOn", "()V"⟩, 55) := ⟨⟨by decide +kernel, by decide +kernel⟩, List.mem_of_getElem? (i := 1013) (by decide +kernel), List.mem_of_getElem? (i := 1189) (by decide +kernel), List.mem_of_getElem? (i := 1190) (by decide +kernel)⟩
theorem lw_p39 : lw_okq (⟨"NameFallModel", "sign", "(I)I"⟩, 55) := ⟨⟨by decide +kernel, by decide +kernel⟩, List.mem_of_getElem? (i := 1013) (by decide +kernel), List.mem_of_getElem? (i := 1193) (by decide +kernel), List.mem_of_getElem? (i := 1194) (by decide +kernel)⟩
theorem lw_p40 : lw_okq (⟨"NameFallModel", "isGood", "()Z"⟩, 55) := ⟨⟨by decide +kernel, by decide +kernel⟩, List.mem_of_getElem? (i := 1013) (by decide +kernel), List.mem_of_getElem? (i := 1228) (by decide +kernel), List.mem_of_getElem? (i := 1229) (by decide +kernel)⟩
theorem lw_p41 : lw_okq (⟨"NameFallModel", "readLine", "()V"⟩, 55) := ⟨⟨by decide +kernel, by decide +kernel⟩, List.mem_of_getElem? (i := 1013) (by decide +kernel), List.mem_of_getElem? (i := 1232) (by decide +kernel), List.mem_of_getElem? (i := 1233) (by decide +kernel)⟩
theorem lw_p42 : lw_okq (⟨"NameFallModel", "isWord", "(J)Z"⟩, 55) := ⟨⟨by decide +kernel, by decide +kernel⟩, List.mem_of_getElem? (i := 1013) (by decide +kernel), List.mem_of_getElem? (i := 1236) (by decide +kernel), List.mem_of_getElem? (i := 1237) (by decide +kernel)⟩
theorem lw_p43 : lw_okq (⟨"NameFallModel", "wrong", "()V"⟩, 55) := ⟨⟨by decide +kernel, by decide +kernel⟩, List.mem_of_getElem? (i := 1013) (by decide +kernel), List.mem_of_getElem? (i := 1240) (by decide +kernel), List.mem_of_getElem? (i := 1241) (by decide +kernel)⟩
theorem lw_p44 : lw_okq (⟨"NameFallModel", "fails", "(II)V"⟩, 55) := ⟨⟨by decide +kernel, by decide +kernel⟩, List.mem_of_getElem? (i := 1013) (by decide +kernel), List.mem_of_getElem? (i := 1244) (by decide +kernel), List.mem_of_getElem? (i := 1245) (by decide +kernel)⟩
theorem lw_p45 : lw_okq (⟨"NameFallModel", "readPlace", "()V"⟩, 55) := ⟨⟨by decide +kernel, by decide +kernel⟩, List.mem_of_getElem? (i := 1013) (by decide +kernel), List.mem_of_getElem? (i := 1248) (by decide +kernel), List.mem_of_getElem? (i := 1249) (by decide +kernel)⟩
theorem lw_p46 : lw_okq (⟨"NameFallModel", "placeHere", "()I"⟩, 55) := ⟨⟨by decide +kernel, by decide +kernel⟩, List.mem_of_getElem? (i := 1013) (by decide +kernel), List.mem_of_getElem? (i := 1252) (by decide +kernel), List.mem_of_getElem? (i := 1253) (by decide +kernel)⟩
theorem lw_p47 : lw_okq (⟨"NameFallModel", "here", "([JII)I"⟩, 55) := ⟨⟨by decide +kernel, by decide +kernel⟩, List.mem_of_getElem? (i := 1013) (by decide +kernel), List.mem_of_getElem? (i := 1256) (by decide +kernel), List.mem_of_getElem? (i := 1257) (by decide +kernel)⟩
def lw_privs_3 : List (MethodName × Nat) := [(⟨"NameFall", "isPlace", "(I)Z"⟩, 11), (⟨"NameFall$Falls", "fallsForAll", "(II)Z"⟩, 7), (⟨"NameFall", "countChanges", "(III)V"⟩, 11), (⟨"NameFall$Speech", "passes", "(LNameFall$Land;III)Z"⟩, 5), (⟨"NameFall$Speech", "layWay", "(II)I"⟩, 5), (⟨"NameFall", "hurtOf", "(II)I"⟩, 11), (⟨"NameFallModel", "goOn", "()V"⟩, 55), (⟨"NameFallModel", "sign", "(I)I"⟩, 55), (⟨"NameFallModel", "isGood", "()Z"⟩, 55), (⟨"NameFallModel", "readLine", "()V"⟩, 55), (⟨"NameFallModel", "isWord", "(J)Z"⟩, 55), (⟨"NameFallModel", "wrong", "()V"⟩, 55), (⟨"NameFallModel", "fails", "(II)V"⟩, 55), (⟨"NameFallModel", "readPlace", "()V"⟩, 55), (⟨"NameFallModel", "placeHere", "()I"⟩, 55), (⟨"NameFallModel", "here", "([JII)I"⟩, 55)]
theorem lw_r3 : ∀ q ∈ lw_privs_3, lw_okq q := List.forall_mem_cons.mpr ⟨lw_p32, List.forall_mem_cons.mpr ⟨lw_p33, List.forall_mem_cons.mpr ⟨lw_p34, List.forall_mem_cons.mpr ⟨lw_p35, List.forall_mem_cons.mpr ⟨lw_p36, List.forall_mem_cons.mpr ⟨lw_p37, List.forall_mem_cons.mpr ⟨lw_p38, List.forall_mem_cons.mpr ⟨lw_p39, List.forall_mem_cons.mpr ⟨lw_p40, List.forall_mem_cons.mpr ⟨lw_p41, List.forall_mem_cons.mpr ⟨lw_p42, List.forall_mem_cons.mpr ⟨lw_p43, List.forall_mem_cons.mpr ⟨lw_p44, List.forall_mem_cons.mpr ⟨lw_p45, List.forall_mem_cons.mpr ⟨lw_p46, List.forall_mem_cons.mpr ⟨lw_p47, fun _ h => absurd h List.not_mem_nil⟩⟩⟩⟩⟩⟩⟩⟩⟩⟩⟩⟩⟩⟩⟩⟩
theorem lw_p48 : lw_okq (⟨"NameFallModel", "fresh", "(I)J"⟩, 55) := ⟨⟨by decide +kernel, by decide +kernel⟩, List.mem_of_getElem? (i := 1013) (by decide +kernel), List.mem_of_getElem? (i := 1260) (by decide +kernel), List.mem_of_getElem? (i := 1261) (by decide +kernel)⟩
theorem lw_p49 : lw_okq (⟨"NameFallModel", "must", "(Z)V"⟩, 55) := ⟨⟨by decide +kernel, by decide +kernel⟩, List.mem_of_getElem? (i := 1013) (by decide +kernel), List.mem_of_getElem? (i := 1264) (by decide +kernel), List.mem_of_getElem? (i := 1265) (by decide +kernel)⟩
theorem lw_p50 : lw_okq (⟨"NameFallModel", "numeral", "(II)I"⟩, 55) := ⟨⟨by decide +kernel, by decide +kernel⟩, List.mem_of_getElem? (i := 1013) (by decide +kernel), List.mem_of_getElem? (i := 1268) (by decide +kernel), List.mem_of_getElem? (i := 1269) (by decide +kernel)⟩
theorem lw_p51 : lw_okq (⟨"NameFallModel", "readMeaning", "()V"⟩, 55) := ⟨⟨by decide +kernel, by decide +kernel⟩, List.mem_of_getElem? (i := 1013) (by decide +kernel), List.mem_of_getElem? (i := 1272) (by decide +kernel), List.mem_of_getElem? (i := 1273) (by decide +kernel)⟩
theorem lw_p52 : lw_okq (⟨"NameFallModel", "meaningHere", "()I"⟩, 55) := ⟨⟨by decide +kernel, by decide +kernel⟩, List.mem_of_getElem? (i := 1013) (by decide +kernel), List.mem_of_getElem? (i := 1276) (by decide +kernel), List.mem_of_getElem? (i := 1277) (by decide +kernel)⟩
theorem lw_p53 : lw_okq (⟨"NameFallModel", "readWord", "()V"⟩, 55) := ⟨⟨by decide +kernel, by decide +kernel⟩, List.mem_of_getElem? (i := 1013) (by decide +kernel), List.mem_of_getElem? (i := 1280) (by decide +kernel), List.mem_of_getElem? (i := 1281) (by decide +kernel)⟩
theorem lw_p54 : lw_okq (⟨"NameFallModel", "given", "(II)I"⟩, 55) := ⟨⟨by decide +kernel, by decide +kernel⟩, List.mem_of_getElem? (i := 1013) (by decide +kernel), List.mem_of_getElem? (i := 1284) (by decide +kernel), List.mem_of_getElem? (i := 1285) (by decide +kernel)⟩
theorem lw_p55 : lw_okq (⟨"NameFallModel", "readTurn", "()V"⟩, 55) := ⟨⟨by decide +kernel, by decide +kernel⟩, List.mem_of_getElem? (i := 1013) (by decide +kernel), List.mem_of_getElem? (i := 1288) (by decide +kernel), List.mem_of_getElem? (i := 1289) (by decide +kernel)⟩
theorem lw_p56 : lw_okq (⟨"NameFallModel", "readPerson", "()V"⟩, 55) := ⟨⟨by decide +kernel, by decide +kernel⟩, List.mem_of_getElem? (i := 1013) (by decide +kernel), List.mem_of_getElem? (i := 1292) (by decide +kernel), List.mem_of_getElem? (i := 1293) (by decide +kernel)⟩
theorem lw_p57 : lw_okq (⟨"NameFallModel", "personHere", "()I"⟩, 55) := ⟨⟨by decide +kernel, by decide +kernel⟩, List.mem_of_getElem? (i := 1013) (by decide +kernel), List.mem_of_getElem? (i := 1296) (by decide +kernel), List.mem_of_getElem? (i := 1297) (by decide +kernel)⟩
theorem lw_p58 : lw_okq (⟨"NameFallModel", "readTalk", "()V"⟩, 55) := ⟨⟨by decide +kernel, by decide +kernel⟩, List.mem_of_getElem? (i := 1013) (by decide +kernel), List.mem_of_getElem? (i := 1300) (by decide +kernel), List.mem_of_getElem? (i := 1301) (by decide +kernel)⟩
theorem lw_p59 : lw_okq (⟨"NameFallModel", "layNear", "()V"⟩, 55) := ⟨⟨by decide +kernel, by decide +kernel⟩, List.mem_of_getElem? (i := 1013) (by decide +kernel), List.mem_of_getElem? (i := 1304) (by decide +kernel), List.mem_of_getElem? (i := 1305) (by decide +kernel)⟩
theorem lw_p60 : lw_okq (⟨"NameFallModel", "isChild", "(II)Z"⟩, 55) := ⟨⟨by decide +kernel, by decide +kernel⟩, List.mem_of_getElem? (i := 1013) (by decide +kernel), List.mem_of_getElem? (i := 1308) (by decide +kernel), List.mem_of_getElem? (i := 1309) (by decide +kernel)⟩
theorem lw_p61 : lw_okq (⟨"NameFallModel", "isPerson", "(I)Z"⟩, 55) := ⟨⟨by decide +kernel, by decide +kernel⟩, List.mem_of_getElem? (i := 1013) (by decide +kernel), List.mem_of_getElem? (i := 1323) (by decide +kernel), List.mem_of_getElem? (i := 1324) (by decide +kernel)⟩
theorem lw_p62 : lw_okq (⟨"NameFallModel", "bornOf", "(I)I"⟩, 55) := ⟨⟨by decide +kernel, by decide +kernel⟩, List.mem_of_getElem? (i := 1013) (by decide +kernel), List.mem_of_getElem? (i := 1333) (by decide +kernel), List.mem_of_getElem? (i := 1334) (by decide +kernel)⟩
theorem lw_p63 : lw_okq (⟨"NameFallModel", "know", "(I)V"⟩, 55) := ⟨⟨by decide +kernel, by decide +kernel⟩, List.mem_of_getElem? (i := 1013) (by decide +kernel), List.mem_of_getElem? (i := 1350) (by decide +kernel), List.mem_of_getElem? (i := 1351) (by decide +kernel)⟩
def lw_privs_4 : List (MethodName × Nat) := [(⟨"NameFallModel", "fresh", "(I)J"⟩, 55), (⟨"NameFallModel", "must", "(Z)V"⟩, 55), (⟨"NameFallModel", "numeral", "(II)I"⟩, 55), (⟨"NameFallModel", "readMeaning", "()V"⟩, 55), (⟨"NameFallModel", "meaningHere", "()I"⟩, 55), (⟨"NameFallModel", "readWord", "()V"⟩, 55), (⟨"NameFallModel", "given", "(II)I"⟩, 55), (⟨"NameFallModel", "readTurn", "()V"⟩, 55), (⟨"NameFallModel", "readPerson", "()V"⟩, 55), (⟨"NameFallModel", "personHere", "()I"⟩, 55), (⟨"NameFallModel", "readTalk", "()V"⟩, 55), (⟨"NameFallModel", "layNear", "()V"⟩, 55), (⟨"NameFallModel", "isChild", "(II)Z"⟩, 55), (⟨"NameFallModel", "isPerson", "(I)Z"⟩, 55), (⟨"NameFallModel", "bornOf", "(I)I"⟩, 55), (⟨"NameFallModel", "know", "(I)V"⟩, 55)]
theorem lw_r4 : ∀ q ∈ lw_privs_4, lw_okq q := List.forall_mem_cons.mpr ⟨lw_p48, List.forall_mem_cons.mpr ⟨lw_p49, List.forall_mem_cons.mpr ⟨lw_p50, List.forall_mem_cons.mpr ⟨lw_p51, List.forall_mem_cons.mpr ⟨lw_p52, List.forall_mem_cons.mpr ⟨lw_p53, List.forall_mem_cons.mpr ⟨lw_p54, List.forall_mem_cons.mpr ⟨lw_p55, List.forall_mem_cons.mpr ⟨lw_p56, List.forall_mem_cons.mpr ⟨lw_p57, List.forall_mem_cons.mpr ⟨lw_p58, List.forall_mem_cons.mpr ⟨lw_p59, List.forall_mem_cons.mpr ⟨lw_p60, List.forall_mem_cons.mpr ⟨lw_p61, List.forall_mem_cons.mpr ⟨lw_p62, List.forall_mem_cons.mpr ⟨lw_p63, fun _ h => absurd h List.not_mem_nil⟩⟩⟩⟩⟩⟩⟩⟩⟩⟩⟩⟩⟩⟩⟩⟩
theorem lw_p64 : lw_okq (⟨"NameFallModel", "isAlive", "(II)Z"⟩, 55) := ⟨⟨by decide +kernel, by decide +kernel⟩, List.mem_of_getElem? (i := 1013) (by decide +kernel), List.mem_of_getElem? (i := 1354) (by decide +kernel), List.mem_of_getElem? (i := 1355) (by decide +kernel)⟩
theorem lw_p65 : lw_okq (⟨"NameFallModel", "isWordNo", "(I)Z"⟩, 55) := ⟨⟨by decide +kernel, by decide +kernel⟩, List.mem_of_getElem? (i := 1013) (by decide +kernel), List.mem_of_getElem? (i := 1362) (by decide +kernel), List.mem_of_getElem? (i := 1363) (by decide +kernel)⟩
theorem lw_p66 : lw_okq (⟨"NameFallModel", "wordOf", "(I)J"⟩, 55) := ⟨⟨by decide +kernel, by decide +kernel⟩, List.mem_of_getElem? (i := 1013) (by decide +kernel), List.mem_of_getElem? (i := 1366) (by decide +kernel), List.mem_of_getElem? (i := 1367) (by decide +kernel)⟩
theorem lw_p67 : lw_okq (⟨"NameFallModel", "calledOf", "(I)J"⟩, 55) := ⟨⟨by decide +kernel, by decide +kernel⟩, List.mem_of_getElem? (i := 1013) (by decide +kernel), List.mem_of_getElem? (i := 1370) (by decide +kernel), List.mem_of_getElem? (i := 1371) (by decide +kernel)⟩
theorem lw_p68 : lw_okq (⟨"NameFallModel", "apartOf", "(JJ)I"⟩, 55) := ⟨⟨by decide +kernel, by decide +kernel⟩, List.mem_of_getElem? (i := 1013) (by decide +kernel), List.mem_of_getElem? (i := 1374) (by decide +kernel), List.mem_of_getElem? (i := 1375) (by decide +kernel)⟩
theorem lw_p69 : lw_okq (⟨"NameFallModel", "speak", "(IIII)Z"⟩, 55) := ⟨⟨by decide +kernel, by decide +kernel⟩, List.mem_of_getElem? (i := 1013) (by decide +kernel), List.mem_of_getElem? (i := 1390) (by decide +kernel), List.mem_of_getElem? (i := 1391) (by decide +kernel)⟩
theorem lw_p70 : lw_okq (⟨"NameFallModel", "isBarred", "(IIII)Z"⟩, 55) := ⟨⟨by decide +kernel, by decide +kernel⟩, List.mem_of_getElem? (i := 1013) (by decide +kernel), List.mem_of_getElem? (i := 1394) (by decide +kernel), List.mem_of_getElem? (i := 1395) (by decide +kernel)⟩
theorem lw_p71 : lw_okq (⟨"NameFallModel", "homeOf", "(I)I"⟩, 55) := ⟨⟨by decide +kernel, by decide +kernel⟩, List.mem_of_getElem? (i := 1013) (by decide +kernel), List.mem_of_getElem? (i := 1398) (by decide +kernel), List.mem_of_getElem? (i := 1399) (by decide +kernel)⟩
theorem lw_p72 : lw_okq (⟨"NameFallModel", "placeNo", "(I)I"⟩, 55) := ⟨⟨by decide +kernel, by decide +kernel⟩, List.mem_of_getElem? (i := 1013) (by decide +kernel), List.mem_of_getElem? (i := 1402) (by decide +kernel), List.mem_of_getElem? (i := 1403) (by decide +kernel)⟩
theorem lw_p73 : lw_okq (⟨"NameFallModel", "holds", "(III)Z"⟩, 55) := ⟨⟨by decide +kernel, by decide +kernel⟩, List.mem_of_getElem? (i := 1013) (by decide +kernel), List.mem_of_getElem? (i := 1406) (by decide +kernel), List.mem_of_getElem? (i := 1407) (by decide +kernel)⟩
theorem lw_p74 : lw_okq (⟨"NameFallModel", "isFall", "(II)Z"⟩, 55) := ⟨⟨by decide +kernel, by decide +kernel⟩, List.mem_of_getElem? (i := 1013) (by decide +kernel), List.mem_of_getElem? (i := 1410) (by decide +kernel), List.mem_of_getElem? (i := 1411) (by decide +kernel)⟩
theorem lw_p75 : lw_okq (⟨"NameFallModel", "comesFrom", "(II)Z"⟩, 55) := ⟨⟨by decide +kernel, by decide +kernel⟩, List.mem_of_getElem? (i := 1013) (by decide +kernel), List.mem_of_getElem? (i := 1414) (by decide +kernel), List.mem_of_getElem? (i := 1415) (by decide +kernel)⟩
theorem lw_p76 : lw_okq (⟨"NameFallModel", "isMeaning", "(I)Z"⟩, 55) := ⟨⟨by decide +kernel, by decide +kernel⟩, List.mem_of_getElem? (i := 1013) (by decide +kernel), List.mem_of_getElem? (i := 1427) (by decide +kernel), List.mem_of_getElem? (i := 1428) (by decide +kernel)⟩
theorem lw_p77 : lw_okq (⟨"NameFallModel", "insteadOf", "(IIII)I"⟩, 55) := ⟨⟨by decide +kernel, by decide +kernel⟩, List.mem_of_getElem? (i := 1013) (by decide +kernel), List.mem_of_getElem? (i := 1431) (by decide +kernel), List.mem_of_getElem? (i := 1432) (by decide +kernel)⟩
theorem lw_p78 : lw_okq (⟨"NameFallModel", "firstOf", "(IIIII)I"⟩, 55) := ⟨⟨by decide +kernel, by decide +kernel⟩, List.mem_of_getElem? (i := 1013) (by decide +kernel), List.mem_of_getElem? (i := 1435) (by decide +kernel), List.mem_of_getElem? (i := 1436) (by decide +kernel)⟩
theorem lw_p79 : lw_okq (⟨"NameFallModel", "means", "(II)Z"⟩, 55) := ⟨⟨by decide +kernel, by decide +kernel⟩, List.mem_of_getElem? (i := 1013) (by decide +kernel), List.mem_of_getElem? (i := 1439) (by decide +kernel), List.mem_of_getElem? (i := 1440) (by decide +kernel)⟩
def lw_privs_5 : List (MethodName × Nat) := [(⟨"NameFallModel", "isAlive", "(II)Z"⟩, 55), (⟨"NameFallModel", "isWordNo", "(I)Z"⟩, 55), (⟨"NameFallModel", "wordOf", "(I)J"⟩, 55), (⟨"NameFallModel", "calledOf", "(I)J"⟩, 55), (⟨"NameFallModel", "apartOf", "(JJ)I"⟩, 55), (⟨"NameFallModel", "speak", "(IIII)Z"⟩, 55), (⟨"NameFallModel", "isBarred", "(IIII)Z"⟩, 55), (⟨"NameFallModel", "homeOf", "(I)I"⟩, 55), (⟨"NameFallModel", "placeNo", "(I)I"⟩, 55), (⟨"NameFallModel", "holds", "(III)Z"⟩, 55), (⟨"NameFallModel", "isFall", "(II)Z"⟩, 55), (⟨"NameFallModel", "comesFrom", "(II)Z"⟩, 55), (⟨"NameFallModel", "isMeaning", "(I)Z"⟩, 55), (⟨"NameFallModel", "insteadOf", "(IIII)I"⟩, 55), (⟨"NameFallModel", "firstOf", "(IIIII)I"⟩, 55), (⟨"NameFallModel", "means", "(II)Z"⟩, 55)]
theorem lw_r5 : ∀ q ∈ lw_privs_5, lw_okq q := List.forall_mem_cons.mpr ⟨lw_p64, List.forall_mem_cons.mpr ⟨lw_p65, List.forall_mem_cons.mpr ⟨lw_p66, List.forall_mem_cons.mpr ⟨lw_p67, List.forall_mem_cons.mpr ⟨lw_p68, List.forall_mem_cons.mpr ⟨lw_p69, List.forall_mem_cons.mpr ⟨lw_p70, List.forall_mem_cons.mpr ⟨lw_p71, List.forall_mem_cons.mpr ⟨lw_p72, List.forall_mem_cons.mpr ⟨lw_p73, List.forall_mem_cons.mpr ⟨lw_p74, List.forall_mem_cons.mpr ⟨lw_p75, List.forall_mem_cons.mpr ⟨lw_p76, List.forall_mem_cons.mpr ⟨lw_p77, List.forall_mem_cons.mpr ⟨lw_p78, List.forall_mem_cons.mpr ⟨lw_p79, fun _ h => absurd h List.not_mem_nil⟩⟩⟩⟩⟩⟩⟩⟩⟩⟩⟩⟩⟩⟩⟩⟩
theorem lw_p80 : lw_okq (⟨"NameFallModel", "isAt", "(II)Z"⟩, 55) := ⟨⟨by decide +kernel, by decide +kernel⟩, List.mem_of_getElem? (i := 1013) (by decide +kernel), List.mem_of_getElem? (i := 1443) (by decide +kernel), List.mem_of_getElem? (i := 1444) (by decide +kernel)⟩
theorem lw_p81 : lw_okq (⟨"NameFallModel", "graspOf", "(III)I"⟩, 55) := ⟨⟨by decide +kernel, by decide +kernel⟩, List.mem_of_getElem? (i := 1013) (by decide +kernel), List.mem_of_getElem? (i := 1455) (by decide +kernel), List.mem_of_getElem? (i := 1456) (by decide +kernel)⟩
theorem lw_p82 : lw_okq (⟨"NameFallModel", "isPlace", "(I)Z"⟩, 55) := ⟨⟨by decide +kernel, by decide +kernel⟩, List.mem_of_getElem? (i := 1013) (by decide +kernel), List.mem_of_getElem? (i := 1463) (by decide +kernel), List.mem_of_getElem? (i := 1464) (by decide +kernel)⟩
theorem lw_p83 : lw_okq (⟨"NameFallModel", "todayOf", "(III)I"⟩, 55) := ⟨⟨by decide +kernel, by decide +kernel⟩, List.mem_of_getElem? (i := 1013) (by decide +kernel), List.mem_of_getElem? (i := 1467) (by decide +kernel), List.mem_of_getElem? (i := 1468) (by decide +kernel)⟩
theorem lw_p84 : lw_okq (⟨"NameFallModel", "isGone", "(III)Z"⟩, 55) := ⟨⟨by decide +kernel, by decide +kernel⟩, List.mem_of_getElem? (i := 1013) (by decide +kernel), List.mem_of_getElem? (i := 1471) (by decide +kernel), List.mem_of_getElem? (i := 1472) (by decide +kernel)⟩
theorem lw_p85 : lw_okq (⟨"NameFallModel", "changesOf", "(IIII)I"⟩, 55) := ⟨⟨by decide +kernel, by decide +kernel⟩, List.mem_of_getElem? (i := 1013) (by decide +kernel), List.mem_of_getElem? (i := 1486) (by decide +kernel), List.mem_of_getElem? (i := 1487) (by decide +kernel)⟩
theorem lw_p86 : lw_okq (⟨"NameFallModel", "find", "(IIII)I"⟩, 55) := ⟨⟨by decide +kernel, by decide +kernel⟩, List.mem_of_getElem? (i := 1013) (by decide +kernel), List.mem_of_getElem? (i := 1498) (by decide +kernel), List.mem_of_getElem? (i := 1499) (by decide +kernel)⟩
theorem lw_p87 : lw_okq (⟨"NameFallModel", "passes", "(IIII)Z"⟩, 55) := ⟨⟨by decide +kernel, by decide +kernel⟩, List.mem_of_getElem? (i := 1013) (by decide +kernel), List.mem_of_getElem? (i := 1502) (by decide +kernel), List.mem_of_getElem? (i := 1503) (by decide +kernel)⟩
theorem lw_p88 : lw_okq (⟨"NameFallModel", "talk", "(II)Z"⟩, 55) := ⟨⟨by decide +kernel, by decide +kernel⟩, List.mem_of_getElem? (i := 1013) (by decide +kernel), List.mem_of_getElem? (i := 1506) (by decide +kernel), List.mem_of_getElem? (i := 1507) (by decide +kernel)⟩
theorem lw_p89 : lw_okq (⟨"NameFallModel", "hurtOf", "(III)I"⟩, 55) := ⟨⟨by decide +kernel, by decide +kernel⟩, List.mem_of_getElem? (i := 1013) (by decide +kernel), List.mem_of_getElem? (i := 1523) (by decide +kernel), List.mem_of_getElem? (i := 1524) (by decide +kernel)⟩
theorem lw_p90 : lw_okq (⟨"NameFallModel", "todays", "(II)I"⟩, 55) := ⟨⟨by decide +kernel, by decide +kernel⟩, List.mem_of_getElem? (i := 1013) (by decide +kernel), List.mem_of_getElem? (i := 1538) (by decide +kernel), List.mem_of_getElem? (i := 1539) (by decide +kernel)⟩
theorem lw_p91 : lw_okq (⟨"NameFallModel", "graspAll", "(I)I"⟩, 55) := ⟨⟨by decide +kernel, by decide +kernel⟩, List.mem_of_getElem? (i := 1013) (by decide +kernel), List.mem_of_getElem? (i := 1549) (by decide +kernel), List.mem_of_getElem? (i := 1550) (by decide +kernel)⟩
def lw_privs_6 : List (MethodName × Nat) := [(⟨"NameFallModel", "isAt", "(II)Z"⟩, 55), (⟨"NameFallModel", "graspOf", "(III)I"⟩, 55), (⟨"NameFallModel", "isPlace", "(I)Z"⟩, 55), (⟨"NameFallModel", "todayOf", "(III)I"⟩, 55), (⟨"NameFallModel", "isGone", "(III)Z"⟩, 55), (⟨"NameFallModel", "changesOf", "(IIII)I"⟩, 55), (⟨"NameFallModel", "find", "(IIII)I"⟩, 55), (⟨"NameFallModel", "passes", "(IIII)Z"⟩, 55), (⟨"NameFallModel", "talk", "(II)Z"⟩, 55), (⟨"NameFallModel", "hurtOf", "(III)I"⟩, 55), (⟨"NameFallModel", "todays", "(II)I"⟩, 55), (⟨"NameFallModel", "graspAll", "(I)I"⟩, 55)]
theorem lw_r6 : ∀ q ∈ lw_privs_6, lw_okq q := List.forall_mem_cons.mpr ⟨lw_p80, List.forall_mem_cons.mpr ⟨lw_p81, List.forall_mem_cons.mpr ⟨lw_p82, List.forall_mem_cons.mpr ⟨lw_p83, List.forall_mem_cons.mpr ⟨lw_p84, List.forall_mem_cons.mpr ⟨lw_p85, List.forall_mem_cons.mpr ⟨lw_p86, List.forall_mem_cons.mpr ⟨lw_p87, List.forall_mem_cons.mpr ⟨lw_p88, List.forall_mem_cons.mpr ⟨lw_p89, List.forall_mem_cons.mpr ⟨lw_p90, List.forall_mem_cons.mpr ⟨lw_p91, fun _ h => absurd h List.not_mem_nil⟩⟩⟩⟩⟩⟩⟩⟩⟩⟩⟩⟩
def lw_privs : List (MethodName × Nat) := lw_privs_1 ++ (lw_privs_2 ++ (lw_privs_3 ++ (lw_privs_4 ++ (lw_privs_5 ++ (lw_privs_6)))))
def lw_tbl : List Cond := k2_sels lw_privs ++ tables_1
theorem lw_privs_ok : ∀ q ∈ lw_privs, lw_okq q := by
  show ∀ q ∈ lw_privs_1 ++ (lw_privs_2 ++ (lw_privs_3 ++ (lw_privs_4 ++ (lw_privs_5 ++ (lw_privs_6))))), lw_okq q
  exact List.forall_mem_append.mpr ⟨lw_r1, List.forall_mem_append.mpr ⟨lw_r2, List.forall_mem_append.mpr ⟨lw_r3, List.forall_mem_append.mpr ⟨lw_r4, List.forall_mem_append.mpr ⟨lw_r5, lw_r6⟩⟩⟩⟩⟩
end
section
def R_Chances : String := "NameFall$Chances"
def F_Chances : u_T := fun k => match k with
  | 0 => ("NameFall$Chances", "upper", "J", false)
  | 1 => ("NameFall$Chances", "lower", "J", false)
  | 2 => ("NameFall$Chances", "mortals", "I", false)
  | 3 => ("NameFall$Chances", "heldByEach", "[I", true)
  | _ => ("NameFall$Chances", "todays", "[J", true)
def t_Chances : Nat → FieldType := fun k => match k with
  | 0 => .long
  | 1 => .long
  | 2 => .int
  | 3 => .array .int
  | _ => .array .long
theorem n_Chances : ∀ a, a < 5 → ∀ b, b < 5 → a ≠ b → (F_Chances a).2.1 ≠ (F_Chances b).2.1 := by decide +kernel
theorem t_Chances_ok : ∀ k, k < 5 → parseFieldDescriptor (F_Chances k).2.2.1 = some (t_Chances k) := by decide +kernel
theorem df_Chances : ∀ j, j < 5 → defaultValue (t_Chances j) = vp_V [.long 0, .long 0, .int 0, .null, .null] j := by decide +kernel
def R_Deaths : String := "NameFall$Deaths"
def F_Deaths : u_T := fun k => match k with
  | 0 => ("NameFall$Deaths", "count", "I", false)
  | 1 => ("NameFall$Deaths", "time", "I", false)
  | 2 => ("NameFall$Deaths", "persons", "[I", true)
  | 3 => ("NameFall$Deaths", "years", "[I", true)
  | 4 => ("NameFall$Deaths", "toldAt", "[I", true)
  | _ => ("NameFall$Deaths", "untoldAt", "[I", true)
def t_Deaths : Nat → FieldType := fun k => match k with
  | 0 => .int
  | 1 => .int
  | 2 => .array .int
  | 3 => .array .int
  | 4 => .array .int
  | _ => .array .int
theorem n_Deaths : ∀ a, a < 6 → ∀ b, b < 6 → a ≠ b → (F_Deaths a).2.1 ≠ (F_Deaths b).2.1 := by decide +kernel
theorem t_Deaths_ok : ∀ k, k < 6 → parseFieldDescriptor (F_Deaths k).2.2.1 = some (t_Deaths k) := by decide +kernel
theorem df_Deaths : ∀ j, j < 6 → defaultValue (t_Deaths j) = vp_V [.int 0, .int 0, .null, .null, .null, .null] j := by decide +kernel
def R_Falls : String := "NameFall$Falls"
def F_Falls : u_T := fun k => match k with
  | 0 => ("NameFall$Falls", "land", "LNameFall$Land;", false)
  | 1 => ("NameFall$Falls", "year", "I", false)
  | 2 => ("NameFall$Falls", "standing", "I", false)
  | 3 => ("NameFall$Falls", "died", "[I", true)
  | 4 => ("NameFall$Falls", "over", "[I", true)
  | 5 => ("NameFall$Falls", "kinds", "[I", true)
  | _ => ("NameFall$Falls", "alikes", "[I", true)
def t_Falls : Nat → FieldType := fun k => match k with
  | 0 => .object "NameFall$Land"
  | 1 => .int
  | 2 => .int
  | 3 => .array .int
  | 4 => .array .int
  | 5 => .array .int
  | _ => .array .int
theorem n_Falls : ∀ a, a < 7 → ∀ b, b < 7 → a ≠ b → (F_Falls a).2.1 ≠ (F_Falls b).2.1 := by decide +kernel
theorem t_Falls_ok : ∀ k, k < 7 → parseFieldDescriptor (F_Falls k).2.2.1 = some (t_Falls k) := by decide +kernel
theorem df_Falls : ∀ j, j < 7 → defaultValue (t_Falls j) = vp_V [.null, .int 0, .int 0, .null, .null, .null, .null] j := by decide +kernel
def R_Land : String := "NameFall$Land"
def F_Land : u_T := fun k => match k with
  | 0 => ("NameFall$Land", "places", "LNameFall$Places;", true)
  | 1 => ("NameFall$Land", "meanings", "LNameFall$Meanings;", true)
  | 2 => ("NameFall$Land", "words", "LNameFall$Words;", true)
  | 3 => ("NameFall$Land", "persons", "LNameFall$Persons;", true)
  | _ => ("NameFall$Land", "changed", "[I", true)
def t_Land : Nat → FieldType := fun k => match k with
  | 0 => .object "NameFall$Places"
  | 1 => .object "NameFall$Meanings"
  | 2 => .object "NameFall$Words"
  | 3 => .object "NameFall$Persons"
  | _ => .array .int
theorem n_Land : ∀ a, a < 5 → ∀ b, b < 5 → a ≠ b → (F_Land a).2.1 ≠ (F_Land b).2.1 := by decide +kernel
theorem t_Land_ok : ∀ k, k < 5 → parseFieldDescriptor (F_Land k).2.2.1 = some (t_Land k) := by decide +kernel
theorem df_Land : ∀ j, j < 5 → defaultValue (t_Land j) = vp_V [.null, .null, .null, .null, .null] j := by decide +kernel
def R_Meanings : String := "NameFall$Meanings"
def F_Meanings : u_T := fun k => match k with
  | 0 => ("NameFall$Meanings", "count", "I", false)
  | 1 => ("NameFall$Meanings", "names", "[J", true)
  | 2 => ("NameFall$Meanings", "turns", "I", false)
  | 3 => ("NameFall$Meanings", "turnOf", "[I", true)
  | 4 => ("NameFall$Meanings", "turnBy", "[I", true)
  | _ => ("NameFall$Meanings", "turnWith", "[I", true)
def t_Meanings : Nat → FieldType := fun k => match k with
  | 0 => .int
  | 1 => .array .long
  | 2 => .int
  | 3 => .array .int
  | 4 => .array .int
  | _ => .array .int
theorem n_Meanings : ∀ a, a < 6 → ∀ b, b < 6 → a ≠ b → (F_Meanings a).2.1 ≠ (F_Meanings b).2.1 := by decide +kernel
theorem t_Meanings_ok : ∀ k, k < 6 → parseFieldDescriptor (F_Meanings k).2.2.1 = some (t_Meanings k) := by decide +kernel
theorem df_Meanings : ∀ j, j < 6 → defaultValue (t_Meanings j) = vp_V [.int 0, .null, .int 0, .null, .null, .null] j := by decide +kernel
def R_Persons : String := "NameFall$Persons"
def F_Persons : u_T := fun k => match k with
  | 0 => ("NameFall$Persons", "count", "I", false)
  | 1 => ("NameFall$Persons", "talks", "I", false)
  | 2 => ("NameFall$Persons", "names", "[J", true)
  | 3 => ("NameFall$Persons", "called", "[J", true)
  | 4 => ("NameFall$Persons", "homes", "[I", true)
  | 5 => ("NameFall$Persons", "born", "[I", true)
  | 6 => ("NameFall$Persons", "parents", "[I", true)
  | 7 => ("NameFall$Persons", "forebears", "[I", true)
  | 8 => ("NameFall$Persons", "partners", "[I", true)
  | 9 => ("NameFall$Persons", "sounding", "[I", true)
  | _ => ("NameFall$Persons", "steps", "[I", true)
def t_Persons : Nat → FieldType := fun k => match k with
  | 0 => .int
  | 1 => .int
  | 2 => .array .long
  | 3 => .array .long
  | 4 => .array .int
  | 5 => .array .int
  | 6 => .array .int
  | 7 => .array .int
  | 8 => .array .int
  | 9 => .array .int
  | _ => .array .int
theorem n_Persons : ∀ a, a < 11 → ∀ b, b < 11 → a ≠ b → (F_Persons a).2.1 ≠ (F_Persons b).2.1 := by decide +kernel
theorem t_Persons_ok : ∀ k, k < 11 → parseFieldDescriptor (F_Persons k).2.2.1 = some (t_Persons k) := by decide +kernel
theorem df_Persons : ∀ j, j < 11 → defaultValue (t_Persons j) = vp_V [.int 0, .int 0, .null, .null, .null, .null, .null, .null, .null, .null, .null] j := by decide +kernel
def R_Places : String := "NameFall$Places"
def F_Places : u_T := fun k => match k with
  | 0 => ("NameFall$Places", "count", "I", false)
  | 1 => ("NameFall$Places", "names", "[J", true)
  | 2 => ("NameFall$Places", "kinds", "[I", true)
  | 3 => ("NameFall$Places", "alikes", "[I", true)
  | 4 => ("NameFall$Places", "nears", "[I", true)
  | 5 => ("NameFall$Places", "years", "[I", true)
  | 6 => ("NameFall$Places", "backs", "[I", true)
  | _ => ("NameFall$Places", "rows", "[I", true)
def t_Places : Nat → FieldType := fun k => match k with
  | 0 => .int
  | 1 => .array .long
  | 2 => .array .int
  | 3 => .array .int
  | 4 => .array .int
  | 5 => .array .int
  | 6 => .array .int
  | _ => .array .int
theorem n_Places : ∀ a, a < 8 → ∀ b, b < 8 → a ≠ b → (F_Places a).2.1 ≠ (F_Places b).2.1 := by decide +kernel
theorem t_Places_ok : ∀ k, k < 8 → parseFieldDescriptor (F_Places k).2.2.1 = some (t_Places k) := by decide +kernel
theorem df_Places : ∀ j, j < 8 → defaultValue (t_Places j) = vp_V [.int 0, .null, .null, .null, .null, .null, .null, .null] j := by decide +kernel
def R_Reader : String := "NameFall$Reader"
def F_Reader : u_T := fun k => match k with
  | 0 => ("NameFall$Reader", "fault", "I", false)
  | 1 => ("NameFall$Reader", "faultPlace", "I", false)
  | 2 => ("NameFall$Reader", "scanner", "LNameFall$Scanner;", true)
  | 3 => ("NameFall$Reader", "name", "J", false)
  | _ => ("NameFall$Reader", "value", "I", false)
def t_Reader : Nat → FieldType := fun k => match k with
  | 0 => .int
  | 1 => .int
  | 2 => .object "NameFall$Scanner"
  | 3 => .long
  | _ => .int
theorem n_Reader : ∀ a, a < 5 → ∀ b, b < 5 → a ≠ b → (F_Reader a).2.1 ≠ (F_Reader b).2.1 := by decide +kernel
theorem t_Reader_ok : ∀ k, k < 5 → parseFieldDescriptor (F_Reader k).2.2.1 = some (t_Reader k) := by decide +kernel
theorem df_Reader : ∀ j, j < 5 → defaultValue (t_Reader j) = vp_V [.int 0, .int 0, .null, .long 0, .int 0] j := by decide +kernel
def R_Scanner : String := "NameFall$Scanner"
def F_Scanner : u_T := fun k => match k with
  | 0 => ("NameFall$Scanner", "kind", "I", false)
  | 1 => ("NameFall$Scanner", "place", "I", false)
  | 2 => ("NameFall$Scanner", "name", "J", false)
  | 3 => ("NameFall$Scanner", "keyword", "I", false)
  | 4 => ("NameFall$Scanner", "number", "I", false)
  | 5 => ("NameFall$Scanner", "text", "[B", true)
  | 6 => ("NameFall$Scanner", "keywords", "[J", true)
  | 7 => ("NameFall$Scanner", "length", "I", false)
  | _ => ("NameFall$Scanner", "at", "I", false)
def t_Scanner : Nat → FieldType := fun k => match k with
  | 0 => .int
  | 1 => .int
  | 2 => .long
  | 3 => .int
  | 4 => .int
  | 5 => .array .byte
  | 6 => .array .long
  | 7 => .int
  | _ => .int
theorem n_Scanner : ∀ a, a < 9 → ∀ b, b < 9 → a ≠ b → (F_Scanner a).2.1 ≠ (F_Scanner b).2.1 := by decide +kernel
theorem t_Scanner_ok : ∀ k, k < 9 → parseFieldDescriptor (F_Scanner k).2.2.1 = some (t_Scanner k) := by decide +kernel
theorem df_Scanner : ∀ j, j < 9 → defaultValue (t_Scanner j) = vp_V [.int 0, .int 0, .long 0, .int 0, .int 0, .null, .null, .int 0, .int 0] j := by decide +kernel
def R_Speech : String := "NameFall$Speech"
def F_Speech : u_T := fun k => match k with
  | 0 => ("NameFall$Speech", "falls", "LNameFall$Falls;", true)
  | 1 => ("NameFall$Speech", "costs", "[I", true)
  | 2 => ("NameFall$Speech", "queue", "[I", true)
  | 3 => ("NameFall$Speech", "toldBy", "[I", true)
  | _ => ("NameFall$Speech", "way", "[I", true)
def t_Speech : Nat → FieldType := fun k => match k with
  | 0 => .object "NameFall$Falls"
  | 1 => .array .int
  | 2 => .array .int
  | 3 => .array .int
  | _ => .array .int
theorem n_Speech : ∀ a, a < 5 → ∀ b, b < 5 → a ≠ b → (F_Speech a).2.1 ≠ (F_Speech b).2.1 := by decide +kernel
theorem t_Speech_ok : ∀ k, k < 5 → parseFieldDescriptor (F_Speech k).2.2.1 = some (t_Speech k) := by decide +kernel
theorem df_Speech : ∀ j, j < 5 → defaultValue (t_Speech j) = vp_V [.null, .null, .null, .null, .null] j := by decide +kernel
def R_Words : String := "NameFall$Words"
def F_Words : u_T := fun k => match k with
  | 0 => ("NameFall$Words", "count", "I", false)
  | 1 => ("NameFall$Words", "names", "[J", true)
  | _ => ("NameFall$Words", "sounding", "[I", true)
def t_Words : Nat → FieldType := fun k => match k with
  | 0 => .int
  | 1 => .array .long
  | _ => .array .int
theorem n_Words : ∀ a, a < 3 → ∀ b, b < 3 → a ≠ b → (F_Words a).2.1 ≠ (F_Words b).2.1 := by decide +kernel
theorem t_Words_ok : ∀ k, k < 3 → parseFieldDescriptor (F_Words k).2.2.1 = some (t_Words k) := by decide +kernel
theorem df_Words : ∀ j, j < 3 → defaultValue (t_Words j) = vp_V [.int 0, .null, .null] j := by decide +kernel
def R_NF : String := "NameFall"
def F_NF : u_T := fun k => match k with
  | 0 => ("NameFall", "tape", "[B", true)
  | 1 => ("NameFall", "taped", "I", false)
  | 2 => ("NameFall", "current", "LNameFall$Land;", false)
  | 3 => ("NameFall", "draft", "LNameFall$Land;", false)
  | 4 => ("NameFall", "reader", "LNameFall$Reader;", true)
  | 5 => ("NameFall", "deaths", "LNameFall$Deaths;", true)
  | 6 => ("NameFall", "falls", "LNameFall$Falls;", true)
  | 7 => ("NameFall", "speech", "LNameFall$Speech;", true)
  | 8 => ("NameFall", "chances", "LNameFall$Chances;", true)
  | 9 => ("NameFall", "latest", "[I", true)
  | _ => ("NameFall", "turned", "[I", true)
def t_NF : Nat → FieldType := fun k => match k with
  | 0 => .array .byte
  | 1 => .int
  | 2 => .object "NameFall$Land"
  | 3 => .object "NameFall$Land"
  | 4 => .object "NameFall$Reader"
  | 5 => .object "NameFall$Deaths"
  | 6 => .object "NameFall$Falls"
  | 7 => .object "NameFall$Speech"
  | 8 => .object "NameFall$Chances"
  | 9 => .array .int
  | _ => .array .int
theorem n_NF : ∀ a, a < 11 → ∀ b, b < 11 → a ≠ b → (F_NF a).2.1 ≠ (F_NF b).2.1 := by decide +kernel
theorem t_NF_ok : ∀ k, k < 11 → parseFieldDescriptor (F_NF k).2.2.1 = some (t_NF k) := by decide +kernel
theorem df_NF : ∀ j, j < 11 → defaultValue (t_NF j) = vp_V [.null, .int 0, .null, .null, .null, .null, .null, .null, .null, .null, .null] j := by decide +kernel
def R_Mo : String := "NameFallModel"
def F_Mo : u_T := fun k => match k with
  | 0 => ("NameFallModel", "tape", "[B", true)
  | 1 => ("NameFallModel", "text", "[B", true)
  | 2 => ("NameFallModel", "taped", "I", false)
  | 3 => ("NameFallModel", "size", "I", false)
  | 4 => ("NameFallModel", "faultKind", "I", false)
  | 5 => ("NameFallModel", "faultPlace", "I", false)
  | 6 => ("NameFallModel", "at", "I", false)
  | 7 => ("NameFallModel", "end", "I", false)
  | 8 => ("NameFallModel", "token", "I", false)
  | 9 => ("NameFallModel", "number", "I", false)
  | 10 => ("NameFallModel", "name", "J", false)
  | 11 => ("NameFallModel", "places", "[I", true)
  | 12 => ("NameFallModel", "meanings", "[I", true)
  | 13 => ("NameFallModel", "words", "[I", true)
  | 14 => ("NameFallModel", "turns", "[I", true)
  | 15 => ("NameFallModel", "persons", "[I", true)
  | 16 => ("NameFallModel", "talks", "[I", true)
  | 17 => ("NameFallModel", "lines", "[I", true)
  | 18 => ("NameFallModel", "pName", "[J", true)
  | 19 => ("NameFallModel", "mName", "[J", true)
  | 20 => ("NameFallModel", "wName", "[J", true)
  | 21 => ("NameFallModel", "hName", "[J", true)
  | 22 => ("NameFallModel", "called", "[J", true)
  | 23 => ("NameFallModel", "custom", "[I", true)
  | 24 => ("NameFallModel", "alike", "[I", true)
  | 25 => ("NameFallModel", "near", "[I", true)
  | 26 => ("NameFallModel", "lasts", "[I", true)
  | 27 => ("NameFallModel", "back", "[I", true)
  | 28 => ("NameFallModel", "wMeaning", "[I", true)
  | 29 => ("NameFallModel", "wPlaces", "[I", true)
  | 30 => ("NameFallModel", "turnOf", "[I", true)
  | 31 => ("NameFallModel", "turnOne", "[I", true)
  | 32 => ("NameFallModel", "turnTwo", "[I", true)
  | 33 => ("NameFallModel", "home", "[I", true)
  | 34 => ("NameFallModel", "born", "[I", true)
  | 35 => ("NameFallModel", "parentOne", "[I", true)
  | 36 => ("NameFallModel", "parentTwo", "[I", true)
  | 37 => ("NameFallModel", "talkOne", "[I", true)
  | 38 => ("NameFallModel", "talkTwo", "[I", true)
  | 39 => ("NameFallModel", "bank", "I", false)
  | 40 => ("NameFallModel", "rb", "I", false)
  | 41 => ("NameFallModel", "dPerson", "[I", true)
  | 42 => ("NameFallModel", "dYear", "[I", true)
  | 43 => ("NameFallModel", "dTold", "[I", true)
  | 44 => ("NameFallModel", "dUntold", "[I", true)
  | 45 => ("NameFallModel", "deaths", "I", false)
  | 46 => ("NameFallModel", "time", "I", false)
  | 47 => ("NameFallModel", "died", "[I", true)
  | 48 => ("NameFallModel", "steps", "[I", true)
  | 49 => ("NameFallModel", "ways", "[I", true)
  | 50 => ("NameFallModel", "costs", "[I", true)
  | 51 => ("NameFallModel", "foundFrom", "[I", true)
  | 52 => ("NameFallModel", "line", "[I", true)
  | 53 => ("NameFallModel", "way", "[I", true)
  | _ => ("NameFallModel", "living", "[I", true)
def t_Mo : Nat → FieldType := fun k => match k with
  | 0 => .array .byte
  | 1 => .array .byte
  | 2 => .int
  | 3 => .int
  | 4 => .int
  | 5 => .int
  | 6 => .int
  | 7 => .int
  | 8 => .int
  | 9 => .int
  | 10 => .long
  | 11 => .array .int
  | 12 => .array .int
  | 13 => .array .int
  | 14 => .array .int
  | 15 => .array .int
  | 16 => .array .int
  | 17 => .array .int
  | 18 => .array .long
  | 19 => .array .long
  | 20 => .array .long
  | 21 => .array .long
  | 22 => .array .long
  | 23 => .array .int
  | 24 => .array .int
  | 25 => .array .int
  | 26 => .array .int
  | 27 => .array .int
  | 28 => .array .int
  | 29 => .array .int
  | 30 => .array .int
  | 31 => .array .int
  | 32 => .array .int
  | 33 => .array .int
  | 34 => .array .int
  | 35 => .array .int
  | 36 => .array .int
  | 37 => .array .int
  | 38 => .array .int
  | 39 => .int
  | 40 => .int
  | 41 => .array .int
  | 42 => .array .int
  | 43 => .array .int
  | 44 => .array .int
  | 45 => .int
  | 46 => .int
  | 47 => .array .int
  | 48 => .array .int
  | 49 => .array .int
  | 50 => .array .int
  | 51 => .array .int
  | 52 => .array .int
  | 53 => .array .int
  | _ => .array .int
theorem n_Mo : ∀ a, a < 55 → ∀ b, b < 55 → a ≠ b → (F_Mo a).2.1 ≠ (F_Mo b).2.1 := by decide +kernel
theorem t_Mo_ok : ∀ k, k < 55 → parseFieldDescriptor (F_Mo k).2.2.1 = some (t_Mo k) := by decide +kernel
theorem df_Mo : ∀ j, j < 55 → defaultValue (t_Mo j) = vp_V [.null, .null, .int 0, .int 0, .int 0, .int 0, .int 0, .int 0, .int 0, .int 0, .long 0, .null, .null, .null, .null, .null, .null, .null, .null, .null, .null, .null, .null, .null, .null, .null, .null, .null, .null, .null, .null, .null, .null, .null, .null, .null, .null, .null, .null, .int 0, .int 0, .null, .null, .null, .null, .int 0, .int 0, .null, .null, .null, .null, .null, .null, .null, .null] j := by decide +kernel
abbrev nz_cl : List vw_C := [(R_Chances, F_Chances, 5), (R_Deaths, F_Deaths, 6), (R_Falls, F_Falls, 7), (R_Land, F_Land, 5), (R_Meanings, F_Meanings, 6), (R_Persons, F_Persons, 11), (R_Places, F_Places, 8), (R_Reader, F_Reader, 5), (R_Scanner, F_Scanner, 9), (R_Speech, F_Speech, 5), (R_Words, F_Words, 3), (R_NF, F_NF, 11), (R_Mo, F_Mo, 55)]
abbrev b_NF_about : ByteArray := prog_1_method_29_code
def y_NF_about : MethodName := ⟨R_NF, "about", "(I)I"⟩
abbrev b_NF_alive : ByteArray := prog_1_method_9_code
def y_NF_alive : MethodName := ⟨R_NF, "alive", "(III)I"⟩
abbrev b_NF_apart : ByteArray := prog_1_method_10_code
def y_NF_apart : MethodName := ⟨R_NF, "apart", "(II)I"⟩
abbrev b_NF_canSpeak : ByteArray := prog_1_method_37_code
def y_NF_canSpeak : MethodName := ⟨R_NF, "canSpeak", "(IIII)Z"⟩
abbrev b_NF_changes : ByteArray := prog_1_method_19_code
def y_NF_changes : MethodName := ⟨R_NF, "changes", "(IIIII)I"⟩
abbrev b_NF_child : ByteArray := prog_1_method_25_code
def y_NF_child : MethodName := ⟨R_NF, "child", "(III)I"⟩
abbrev b_NF_cost : ByteArray := prog_1_method_15_code
def y_NF_cost : MethodName := ⟨R_NF, "cost", "(IIIII)I"⟩
abbrev b_NF_die : ByteArray := prog_1_method_6_code
def y_NF_die : MethodName := ⟨R_NF, "die", "(II)I"⟩
abbrev b_NF_end : ByteArray := prog_1_method_3_code
def y_NF_end : MethodName := ⟨R_NF, "end", "(I)I"⟩
abbrev b_NF_fault : ByteArray := prog_1_method_5_code
def y_NF_fault : MethodName := ⟨R_NF, "fault", "(I)I"⟩
abbrev b_NF_feed : ByteArray := prog_1_method_2_code
def y_NF_feed : MethodName := ⟨R_NF, "feed", "(IIIII)I"⟩
abbrev b_NF_find : ByteArray := prog_1_method_43_code
def y_NF_find : MethodName := ⟨R_NF, "find", "([JIJ)I"⟩
abbrev b_NF_grasp : ByteArray := prog_1_method_16_code
def y_NF_grasp : MethodName := ⟨R_NF, "grasp", "(IIII)I"⟩
abbrev b_NF_has : ByteArray := prog_1_method_41_code
def y_NF_has : MethodName := ⟨R_NF, "has", "(II)Z"⟩
abbrev b_NF_hurt : ByteArray := prog_1_method_24_code
def y_NF_hurt : MethodName := ⟨R_NF, "hurt", "(IIII)I"⟩
abbrev b_NF_instead : ByteArray := prog_1_method_14_code
def y_NF_instead : MethodName := ⟨R_NF, "instead", "(IIIII)I"⟩
abbrev b_NF_isMeaning : ByteArray := prog_1_method_32_code
def y_NF_isMeaning : MethodName := ⟨R_NF, "isMeaning", "(I)Z"⟩
abbrev b_NF_isPerson : ByteArray := prog_1_method_34_code
def y_NF_isPerson : MethodName := ⟨R_NF, "isPerson", "(I)Z"⟩
abbrev b_NF_isPlace : ByteArray := prog_1_method_31_code
def y_NF_isPlace : MethodName := ⟨R_NF, "isPlace", "(I)Z"⟩
abbrev b_NF_isWord : ByteArray := prog_1_method_33_code
def y_NF_isWord : MethodName := ⟨R_NF, "isWord", "(I)Z"⟩
abbrev b_NF_judge : ByteArray := prog_1_method_13_code
def y_NF_judge : MethodName := ⟨R_NF, "judge", "(IIIII)I"⟩
abbrev b_NF_later : ByteArray := prog_1_method_8_code
def y_NF_later : MethodName := ⟨R_NF, "later", "(I)I"⟩
abbrev b_NF_lowest : ByteArray := prog_1_method_42_code
def y_NF_lowest : MethodName := ⟨R_NF, "lowest", "(I)I"⟩
abbrev b_NF_may : ByteArray := prog_1_method_12_code
def y_NF_may : MethodName := ⟨R_NF, "may", "(IIIII)I"⟩
abbrev b_NF_mean : ByteArray := prog_1_method_26_code
def y_NF_mean : MethodName := ⟨R_NF, "mean", "(IIIII)J"⟩
abbrev b_NF_near : ByteArray := prog_1_method_11_code
def y_NF_near : MethodName := ⟨R_NF, "near", "(II)I"⟩
abbrev b_NF_old : ByteArray := prog_1_method_28_code
def y_NF_old : MethodName := ⟨R_NF, "old", "(II)I"⟩
abbrev b_NF_parted : ByteArray := prog_1_method_18_code
def y_NF_parted : MethodName := ⟨R_NF, "parted", "(IIII)I"⟩
abbrev b_NF_putBytes : ByteArray := prog_1_method_30_code
def y_NF_putBytes : MethodName := ⟨R_NF, "putBytes", "(I)V"⟩
abbrev b_NF_renewed : ByteArray := prog_1_method_20_code
def y_NF_renewed : MethodName := ⟨R_NF, "renewed", "(IIII)I"⟩
abbrev b_NF_safe : ByteArray := prog_1_method_23_code
def y_NF_safe : MethodName := ⟨R_NF, "safe", "(II)I"⟩
abbrev b_NF_tell : ByteArray := prog_1_method_21_code
def y_NF_tell : MethodName := ⟨R_NF, "tell", "(IIIII)I"⟩
abbrev b_NF_today : ByteArray := prog_1_method_17_code
def y_NF_today : MethodName := ⟨R_NF, "today", "(IIII)I"⟩
abbrev b_NF_told : ByteArray := prog_1_method_22_code
def y_NF_told : MethodName := ⟨R_NF, "told", "(IIIIII)I"⟩
abbrev b_NF_untell : ByteArray := prog_1_method_7_code
def y_NF_untell : MethodName := ⟨R_NF, "untell", "(I)Z"⟩
abbrev b_NF_wish : ByteArray := prog_1_method_27_code
def y_NF_wish : MethodName := ⟨R_NF, "wish", "(III)I"⟩
abbrev b_Chances_init : ByteArray := prog_2_method_1_code
def y_Chances_init : MethodName := ⟨R_Chances, "<init>", "()V"⟩
abbrev b_Deaths_init : ByteArray := prog_3_method_1_code
def y_Deaths_init : MethodName := ⟨R_Deaths, "<init>", "()V"⟩
abbrev b_Deaths_goOn : ByteArray := prog_3_method_5_code
def y_Deaths_goOn : MethodName := ⟨R_Deaths, "goOn", "(I)I"⟩
abbrev b_Deaths_takeBack : ByteArray := prog_3_method_4_code
def y_Deaths_takeBack : MethodName := ⟨R_Deaths, "takeBack", "(I)Z"⟩
abbrev b_Land_init : ByteArray := prog_5_method_1_code
def y_Land_init : MethodName := ⟨R_Land, "<init>", "()V"⟩
abbrev b_Meanings_init : ByteArray := prog_6_method_1_code
def y_Meanings_init : MethodName := ⟨R_Meanings, "<init>", "()V"⟩
abbrev b_Persons_init : ByteArray := prog_7_method_1_code
def y_Persons_init : MethodName := ⟨R_Persons, "<init>", "()V"⟩
abbrev b_Places_init : ByteArray := prog_8_method_1_code
def y_Places_init : MethodName := ⟨R_Places, "<init>", "()V"⟩
abbrev b_Words_init : ByteArray := prog_12_method_1_code
def y_Words_init : MethodName := ⟨R_Words, "<init>", "()V"⟩
abbrev b_Mo_about : ByteArray := prog_14_method_90_code
def y_Mo_about : MethodName := ⟨R_Mo, "about", "(I)I"⟩
abbrev b_Mo_alive : ByteArray := prog_14_method_44_code
def y_Mo_alive : MethodName := ⟨R_Mo, "alive", "(III)I"⟩
abbrev b_Mo_apart : ByteArray := prog_14_method_49_code
def y_Mo_apart : MethodName := ⟨R_Mo, "apart", "(II)I"⟩
abbrev b_Mo_changes : ByteArray := prog_14_method_73_code
def y_Mo_changes : MethodName := ⟨R_Mo, "changes", "(IIIII)I"⟩
abbrev b_Mo_child : ByteArray := prog_14_method_83_code
def y_Mo_child : MethodName := ⟨R_Mo, "child", "(III)I"⟩
abbrev b_Mo_cost : ByteArray := prog_14_method_64_code
def y_Mo_cost : MethodName := ⟨R_Mo, "cost", "(IIIII)I"⟩
abbrev b_Mo_die : ByteArray := prog_14_method_39_code
def y_Mo_die : MethodName := ⟨R_Mo, "die", "(II)I"⟩
abbrev b_Mo_end : ByteArray := prog_14_method_92_code
def y_Mo_end : MethodName := ⟨R_Mo, "end", "(I)I"⟩
abbrev b_Mo_fault : ByteArray := prog_14_method_27_code
def y_Mo_fault : MethodName := ⟨R_Mo, "fault", "(I)I"⟩
abbrev b_Mo_feed : ByteArray := prog_14_method_91_code
def y_Mo_feed : MethodName := ⟨R_Mo, "feed", "(IIIII)I"⟩
abbrev b_Mo_grasp : ByteArray := prog_14_method_66_code
def y_Mo_grasp : MethodName := ⟨R_Mo, "grasp", "(IIII)I"⟩
abbrev b_Mo_hurt : ByteArray := prog_14_method_82_code
def y_Mo_hurt : MethodName := ⟨R_Mo, "hurt", "(IIII)I"⟩
abbrev b_Mo_instead : ByteArray := prog_14_method_63_code
def y_Mo_instead : MethodName := ⟨R_Mo, "instead", "(IIIII)I"⟩
abbrev b_Mo_isIn : ByteArray := prog_14_method_28_code
def y_Mo_isIn : MethodName := ⟨R_Mo, "isIn", "(III)Z"⟩
abbrev b_Mo_isMeaning : ByteArray := prog_14_method_30_code
def y_Mo_isMeaning : MethodName := ⟨R_Mo, "isMeaning", "(I)Z"⟩
abbrev b_Mo_isPerson : ByteArray := prog_14_method_32_code
def y_Mo_isPerson : MethodName := ⟨R_Mo, "isPerson", "(I)Z"⟩
abbrev b_Mo_isPlace : ByteArray := prog_14_method_29_code
def y_Mo_isPlace : MethodName := ⟨R_Mo, "isPlace", "(I)Z"⟩
abbrev b_Mo_isWordNo : ByteArray := prog_14_method_31_code
def y_Mo_isWordNo : MethodName := ⟨R_Mo, "isWordNo", "(I)Z"⟩
abbrev b_Mo_judge : ByteArray := prog_14_method_60_code
def y_Mo_judge : MethodName := ⟨R_Mo, "judge", "(IIIII)I"⟩
abbrev b_Mo_later : ByteArray := prog_14_method_41_code
def y_Mo_later : MethodName := ⟨R_Mo, "later", "(I)I"⟩
abbrev b_Mo_may : ByteArray := prog_14_method_59_code
def y_Mo_may : MethodName := ⟨R_Mo, "may", "(IIIII)I"⟩
abbrev b_Mo_mean : ByteArray := prog_14_method_86_code
def y_Mo_mean : MethodName := ⟨R_Mo, "mean", "(IIIII)J"⟩
abbrev b_Mo_near : ByteArray := prog_14_method_52_code
def y_Mo_near : MethodName := ⟨R_Mo, "near", "(II)I"⟩
abbrev b_Mo_old : ByteArray := prog_14_method_89_code
def y_Mo_old : MethodName := ⟨R_Mo, "old", "(II)I"⟩
abbrev b_Mo_parted : ByteArray := prog_14_method_70_code
def y_Mo_parted : MethodName := ⟨R_Mo, "parted", "(IIII)I"⟩
abbrev b_Mo_renewed : ByteArray := prog_14_method_74_code
def y_Mo_renewed : MethodName := ⟨R_Mo, "renewed", "(IIII)I"⟩
abbrev b_Mo_safe : ByteArray := prog_14_method_80_code
def y_Mo_safe : MethodName := ⟨R_Mo, "safe", "(II)I"⟩
abbrev b_Mo_speak : ByteArray := prog_14_method_58_code
def y_Mo_speak : MethodName := ⟨R_Mo, "speak", "(IIII)Z"⟩
abbrev b_Mo_tell : ByteArray := prog_14_method_78_code
def y_Mo_tell : MethodName := ⟨R_Mo, "tell", "(IIIII)I"⟩
abbrev b_Mo_today : ByteArray := prog_14_method_69_code
def y_Mo_today : MethodName := ⟨R_Mo, "today", "(IIII)I"⟩
abbrev b_Mo_told : ByteArray := prog_14_method_79_code
def y_Mo_told : MethodName := ⟨R_Mo, "told", "(IIIIII)I"⟩
abbrev b_Mo_untell : ByteArray := prog_14_method_40_code
def y_Mo_untell : MethodName := ⟨R_Mo, "untell", "(I)Z"⟩
abbrev b_Mo_wish : ByteArray := prog_14_method_88_code
def y_Mo_wish : MethodName := ⟨R_Mo, "wish", "(III)I"⟩
def nz_nst : List (String × Nat × MethodName × String) := [(R_NF, 11, y_Land_init, R_NF), (R_Land, 11, y_Places_init, R_NF), (R_Land, 20, y_Meanings_init, R_NF), (R_Land, 27, y_Words_init, R_NF), (R_Land, 34, y_Persons_init, R_NF), (R_NF, 44, y_Deaths_init, R_NF), (R_NF, 64, y_Chances_init, R_NF), (R_Scanner, 80, y_NF_find, R_NF), (R_Reader, 201, y_NF_find, R_NF), (R_Reader, 205, y_NF_has, R_NF), (R_Persons, 47, y_NF_has, R_NF), (R_Falls, 100, y_NF_has, R_NF), (R_Places, 42, y_NF_lowest, R_NF), (R_Speech, 93, y_NF_has, R_NF), (R_Chances, 47, y_NF_has, R_NF)]
end
section
/-! one list of words for all methods; a contract's form; calls and returns by one row each -/
def nz_gd : List Cond := lw_tbl.filter goodWord
theorem nz_gm {w : Cond} (h : w ∈ lw_tbl) (hg : goodWord w = true) : w ∈ nz_gd := List.mem_filter.mpr ⟨h, hg⟩
abbrev nz_bg (y : MethodName) (cc : ByteArray) (n : Nat) (r : Option FieldType) : List Cond := Cond.code y cc n r :: nz_gd
theorem nz_good {y : MethodName} {cc : ByteArray} {n : Nat} {r : Option FieldType} (h : Cond.code y cc n r ∈ nz_gd) : GoodIn nz_gd (nz_bg y cc n r) := fun w hw => by
  rcases List.mem_cons.mp hw with rfl | hw
  · exact ⟨h, good_of_word (List.mem_filter.mp h).2⟩
  · exact ⟨hw, good_of_word (List.mem_filter.mp hw).2⟩
abbrev nz_ty (cB cI cJ : ClassId) : List (ClassId × FieldType) := [(cB, .byte), (cI, .int), (cJ, .long)]
/-- what holds of the tables in every state: the nz_cl, the array nz_cl, the nest's links -/
def nz_k (D : va_G) (cB cI cJ : ClassId) (U : State) : Prop := va_K D nz_cl (nz_ty cB cI cJ) U ∧ ∀ q ∈ nz_nst, va_Nw (.methodLinkNest q.1 q.2.1 q.2.2.1 q.2.2.2) U
theorem nz_k.call {D : va_G} {cB cI cJ : ClassId} {U : State} {g : JFrame} {mk : MethodId} {a : Array Value} (h : nz_k D cB cI cJ U) : nz_k D cB cI cJ (U.calling g mk a) := ⟨va_K.moved (u := U) (U := U.calling g mk a) (Vm.Alike.refl U.vm) h.1, fun q hq => va_Nw.same rfl rfl (h.2 q hq)⟩
theorem nz_k.warm {D : va_G} {cB cI cJ : ClassId} {s U : State} (hW : s.WarmedH U.vm) (h : nz_k D cB cI cJ s) : nz_k D cB cI cJ U := ⟨va_K.moved hW.alike h.1, fun q hq => va_Nw.warmM hW (h.2 q hq)⟩
/-- what else a contract's start asks (of the cells that it doesn't change) -/
abbrev nz_X : Type := (Nat → Prop) → State → Prop
abbrev nz_x0 : nz_X := fun _ _ => True
def nz_xb (X : nz_X) : Prop := ∀ (A : Nat → Prop) (a : Array Value) (U : State) (g : JFrame) (mk : MethodId), X A U → X A (U.calling g mk a)
theorem nz_xb0 : nz_xb nz_x0 := fun _ _ _ _ _ h => h
def nz_pr (D : va_G) (cB cI cJ : ClassId) (X : nz_X) (av : List Value) (ws : va_W) (sz : Nat) : Array Value → State → Prop := va_Pc av (fun U => U.heap.size = sz ∧ va_P D nz_cl ws U.heap ∧ nz_k D cB cI cJ U ∧ va_D (fun _ => True) ws ∧ X (va_A ws sz) U)
theorem nz_blind {D : va_G} {cB cI cJ : ClassId} {X : nz_X} {av : List Value} {ws : va_W} {sz : Nat} (hX : nz_xb X) : FrameBlind (nz_pr D cB cI cJ X av ws sz) := fun a U g mk q => by
  obtain ⟨q0, q1, qP, qK, qD, qX⟩ := q
  exact ⟨q0, q1, qP, nz_k.call qK, qD, hX _ _ _ _ _ qX⟩
abbrev nz_bw (D : va_G) (A : Nat → Prop) : va_W → State → Prop := fun w t => va_P D nz_cl w t.heap ∧ va_D A w
def nz_Ci (l : Launch) (D : va_G) (cB cI cJ : ClassId) (X : nz_X) (y : MethodName) (cc : ByteArray) (n : Nat) (r : Option FieldType) (rm : Room) (av : List Value) (ws : va_W) (post : Int32 → va_W → Prop) : Prop := ∀ sz : Nat, Met l y (nz_bg y cc n r) rm (nz_pr D cB cI cJ X av ws sz) (va_Qi post (nz_bw D (va_A ws sz)) (va_A ws sz)) rm.cells rm.slots (va_A ws sz)
def nz_Cl (l : Launch) (D : va_G) (cB cI cJ : ClassId) (X : nz_X) (y : MethodName) (cc : ByteArray) (n : Nat) (r : Option FieldType) (rm : Room) (av : List Value) (ws : va_W) (post : Int64 → va_W → Prop) : Prop := ∀ sz : Nat, Met l y (nz_bg y cc n r) rm (nz_pr D cB cI cJ X av ws sz) (va_Ql post (nz_bw D (va_A ws sz)) (va_A ws sz)) rm.cells rm.slots (va_A ws sz)
def nz_Cv (l : Launch) (D : va_G) (cB cI cJ : ClassId) (X : nz_X) (y : MethodName) (cc : ByteArray) (n : Nat) (r : Option FieldType) (rm : Room) (av : List Value) (ws : va_W) (post : va_W → Prop) : Prop := ∀ sz : Nat, Met l y (nz_bg y cc n r) rm (nz_pr D cB cI cJ X av ws sz) (va_Qv post (nz_bw D (va_A ws sz)) (va_A ws sz)) rm.cells rm.slots (va_A ws sz)
/-- what a body stands on -/
def nz_Cx (p : Program) (s : State) (m : MethodId) (args : Array Value) (meth : Method) (c : Code) (cc : ByteArray) (n : Nat) (r : Option FieldType) (own : String) (D : va_G) (cB cI cJ : ClassId) : Prop :=
  p.tables.exec = Jvm.exec ∧ c.code = cc ∧ meth.sig.returnType = r ∧ c.maxLocals = n ∧ s.vm.findClass own = some m.cls ∧ (∀ w ∈ nz_gd, w.before args s = true) ∧ meth.locks = false ∧ nz_k D cB cI cJ s
section GENB
variable {l : Launch} {D : va_G} {cB cI cJ : ClassId} {X : nz_X} {y : MethodName} {cc : ByteArray} {n : Nat} {r : Option FieldType} {rm : Room} {av : List Value} {ws : va_W}
theorem nz_Ci.mk {post : Int32 → va_W → Prop} (hy : plainName y.cls = true) (hav : (lg_sl av).length ≤ n)
    (body : ∀ (p : Program) (e : Env) (s : State) (m : MethodId) (below : List Frame) (meth : Method) (c : Code) (A : Nat → Prop) (ls : Array Slot), nz_Cx p s m av.toArray meth c cc n r y.cls D cB cI cJ → meth.name = y.name → va_P D nz_cl ws s.heap → va_D A ws → va_S A s.heap s.heap [] → (∀ q : Nat, s.heap.size ≤ q → A q) → X A s → lv_has ls n (lv_args 0 av) →
      W p l e rm s m av.toArray below meth c s.heap [] 0 0 (MQ below (va_Qi post (nz_bw D A) A) av.toArray s rm.cells rm.slots A) (F0 m 0 ls [])) : nz_Ci l D cB cI cJ X y cc n r rm av ws post := by
  intro sz
  refine Met.ofW (cc := cc) (maxL := n) (ret := r) hy rfl ?_
  intro p e s m args below meth c s₁ B hml hv
  obtain ⟨rfl, hsz, hP, hK, hD0, hX⟩ := hv
  subst hsz
  have hts := atoms_spec (ws := nz_bg y cc n r) B.pre
  rw [lg_entry_eq]
  exact body p e s m below meth c _ _ ⟨B.exec, B.bytes, B.returns, hml, findClass_of_methodNamed B.named, fun w h => hts w (List.mem_cons_of_mem _ h), B.notSynchronized, hK⟩ (name_of_methodNamed B.named B.method).1 hP (hD0.self (sz := s.heap.size)) va_S.rf (fun q h => Or.inr h) hX (lv_entry av hav)
theorem nz_Cl.mk {post : Int64 → va_W → Prop} (hy : plainName y.cls = true) (hav : (lg_sl av).length ≤ n)
    (body : ∀ (p : Program) (e : Env) (s : State) (m : MethodId) (below : List Frame) (meth : Method) (c : Code) (A : Nat → Prop) (ls : Array Slot), nz_Cx p s m av.toArray meth c cc n r y.cls D cB cI cJ → meth.name = y.name → va_P D nz_cl ws s.heap → va_D A ws → va_S A s.heap s.heap [] → (∀ q : Nat, s.heap.size ≤ q → A q) → X A s → lv_has ls n (lv_args 0 av) →
      W p l e rm s m av.toArray below meth c s.heap [] 0 0 (MQ below (va_Ql post (nz_bw D A) A) av.toArray s rm.cells rm.slots A) (F0 m 0 ls [])) : nz_Cl l D cB cI cJ X y cc n r rm av ws post := by
  intro sz
  refine Met.ofW (cc := cc) (maxL := n) (ret := r) hy rfl ?_
  intro p e s m args below meth c s₁ B hml hv
  obtain ⟨rfl, hsz, hP, hK, hD0, hX⟩ := hv
  subst hsz
  have hts := atoms_spec (ws := nz_bg y cc n r) B.pre
  rw [lg_entry_eq]
  exact body p e s m below meth c _ _ ⟨B.exec, B.bytes, B.returns, hml, findClass_of_methodNamed B.named, fun w h => hts w (List.mem_cons_of_mem _ h), B.notSynchronized, hK⟩ (name_of_methodNamed B.named B.method).1 hP (hD0.self (sz := s.heap.size)) va_S.rf (fun q h => Or.inr h) hX (lv_entry av hav)
theorem nz_Cv.mk {post : va_W → Prop} (hy : plainName y.cls = true) (hav : (lg_sl av).length ≤ n)
    (body : ∀ (p : Program) (e : Env) (s : State) (m : MethodId) (below : List Frame) (meth : Method) (c : Code) (A : Nat → Prop) (ls : Array Slot), nz_Cx p s m av.toArray meth c cc n r y.cls D cB cI cJ → meth.name = y.name → va_P D nz_cl ws s.heap → va_D A ws → va_S A s.heap s.heap [] → (∀ q : Nat, s.heap.size ≤ q → A q) → X A s → lv_has ls n (lv_args 0 av) →
      W p l e rm s m av.toArray below meth c s.heap [] 0 0 (MQ below (va_Qv post (nz_bw D A) A) av.toArray s rm.cells rm.slots A) (F0 m 0 ls [])) : nz_Cv l D cB cI cJ X y cc n r rm av ws post := by
  intro sz
  refine Met.ofW (cc := cc) (maxL := n) (ret := r) hy rfl ?_
  intro p e s m args below meth c s₁ B hml hv
  obtain ⟨rfl, hsz, hP, hK, hD0, hX⟩ := hv
  subst hsz
  have hts := atoms_spec (ws := nz_bg y cc n r) B.pre
  rw [lg_entry_eq]
  exact body p e s m below meth c _ _ ⟨B.exec, B.bytes, B.returns, hml, findClass_of_methodNamed B.named, fun w h => hts w (List.mem_cons_of_mem _ h), B.notSynchronized, hK⟩ (name_of_methodNamed B.named B.method).1 hP (hD0.self (sz := s.heap.size)) va_S.rf (fun q h => Or.inr h) hX (lv_entry av hav)
end GENB
/-- the words of a call: virtual, static, of a constructor; the same through the nest -/
def nz_wV (own : String) (i : Nat) (y : MethodName) (cc : ByteArray) (n : Nat) (r : Option FieldType) (k : Nat) : Prop := Cond.methodLink own i y ∈ nz_gd ∧ Cond.instanceMethod y ∈ nz_gd ∧ Cond.selects y.cls y y ∈ nz_gd ∧ Cond.initialized y.cls ∈ nz_gd ∧ Cond.code y cc n r ∈ nz_gd ∧ y.cls ≠ "java/lang/invoke/MethodHandle" ∧ y.cls ≠ "java/lang/invoke/VarHandle" ∧ (parseMethodDescriptor y.desc).map (fun d => d.parameters.length) = some k
def nz_wS (own : String) (i : Nat) (y : MethodName) (cc : ByteArray) (n : Nat) (r : Option FieldType) (k : Nat) : Prop := Cond.methodLink own i y ∈ nz_gd ∧ Cond.static y ∈ nz_gd ∧ Cond.initialized y.cls ∈ nz_gd ∧ Cond.code y cc n r ∈ nz_gd ∧ y.cls ≠ "java/lang/invoke/MethodHandle" ∧ y.cls ≠ "java/lang/invoke/VarHandle" ∧ (parseMethodDescriptor y.desc).map (fun d => d.parameters.length) = some k
def nz_wI (own : String) (i : Nat) (y : MethodName) (cc : ByteArray) (n : Nat) (k : Nat) : Prop := Cond.methodLink own i y ∈ nz_gd ∧ Cond.instanceMethod y ∈ nz_gd ∧ Cond.initialized y.cls ∈ nz_gd ∧ Cond.code y cc n none ∈ nz_gd ∧ y.name = "<init>" ∧ y.cls ≠ "java/lang/invoke/MethodHandle" ∧ y.cls ≠ "java/lang/invoke/VarHandle" ∧ (parseMethodDescriptor y.desc).map (fun d => d.parameters.length) = some k
def nz_wSN (own : String) (i : Nat) (y : MethodName) (host : String) (cc : ByteArray) (n : Nat) (r : Option FieldType) (k : Nat) : Prop := (own, i, y, host) ∈ nz_nst ∧ Cond.static y ∈ nz_gd ∧ Cond.initialized y.cls ∈ nz_gd ∧ Cond.code y cc n r ∈ nz_gd ∧ y.cls ≠ "java/lang/invoke/MethodHandle" ∧ y.cls ≠ "java/lang/invoke/VarHandle" ∧ (parseMethodDescriptor y.desc).map (fun d => d.parameters.length) = some k
def nz_wIN (own : String) (i : Nat) (y : MethodName) (host : String) (cc : ByteArray) (n : Nat) (k : Nat) : Prop := (own, i, y, host) ∈ nz_nst ∧ Cond.instanceMethod y ∈ nz_gd ∧ Cond.initialized y.cls ∈ nz_gd ∧ Cond.code y cc n none ∈ nz_gd ∧ y.name = "<init>" ∧ y.cls ≠ "java/lang/invoke/MethodHandle" ∧ y.cls ≠ "java/lang/invoke/VarHandle" ∧ (parseMethodDescriptor y.desc).map (fun d => d.parameters.length) = some k
theorem nz_fm {ws : va_W} : ∀ (is : List Nat) (wc : va_W), is.map (fun i => ws[i]?) = wc.map some → is.filterMap (fun i => ws[i]?) = wc := by
  intro is
  induction is with
  | nil => intro wc h; cases wc with
    | nil => rfl
    | cons _ _ => simp at h
  | cons i is ih => intro wc h; cases wc with
    | nil => simp at h
    | cons q wc =>
      simp only [List.map_cons, List.cons.injEq] at h
      simp only [List.filterMap_cons, h.1, ih wc h.2]
section GENC
variable {p : Program} {l : Launch} {e : Env} {R : Room} {s : State} {m : MethodId} {args : Array Value} {below : List Frame} {meth : Method} {c : Code} {H : Heap} {locs : List Loc} {cells slots : Nat} {Q : State → Prop} {pc : Nat} {ls : Array Slot} {rest st0 : List Value}
variable {D : va_G} {cB cI cJ : ClassId} {X : nz_X} {cc : ByteArray} {n : Nat} {r : Option FieldType} {own : String} {A : Nat → Prop} {ws wr : va_W} {y : MethodName} {cc1 : ByteArray} {n1 k1 idx : Nat} {r1 : Option FieldType} {rm1 : Room} {b : Nat} {As : List Value} {wc : va_W} {host : String}
theorem nz_calVi {post : Int32 → va_W → Prop} (C0 : nz_Cx p s m args meth c cc n r own D cB cI cJ) (hM : nz_Ci l D cB cI cJ X y cc1 n1 r1 rm1 (.ref b :: As) wc post) (hw : nz_wV own idx y cc1 n1 r1 k1) (hn : As.length = k1) (hXb : nz_xb X) (hR : rm1.frames + 1 ≤ R.frames ∧ 8 + (n1 + 11) + rm1.locals ≤ R.locals) (hls : ls.size = n) (hP : va_P D nz_cl ws H) (hD : va_D A ws) (hS : va_S A s.heap H locs) (hA : ∀ q : Nat, s.heap.size ≤ q → A q) (isC isR : List Nat) (hC : isC.map (fun i => ws[i]?) = wc.map some) (hRr : isR.map (fun i => ws[i]?) = wr.map some) (hnC : va_nd isC = true) (hnR : va_nd isR = true) (hdis : ∀ i ∈ isR, i ∉ isC) {ci N1 : Nat} {T1 : u_T} {fs : List Value} (hci : nz_cl[ci]? = some (y.cls, T1, N1)) (he : wc[0]? = some (b, .inr (ci, fs))) (hX : ∀ U : State, U.heap = H → s.WarmedH U.vm → X (va_A wc H.size) U) (hst : st0 = As.reverse ++ .ref b :: rest) (hcat : (rest.map fun v => v.category).sum ≤ 8) (hdg : decode cc pc = .ok (.invokevirtual idx, 3)) (hf : cells + rm1.cells ≤ R.cells ∧ slots + rm1.slots ≤ R.slots)
    (kk : ∀ (a : Int32) (u : va_W) (H1 : Heap) (locs1 : List Loc), post a u → va_P D nz_cl (wr ++ u) H1 → va_D A (wr ++ u) → va_S A s.heap H1 locs1 → W p l e R s m args below meth c H1 locs1 (cells + rm1.cells) (slots + rm1.slots) Q (F0 m (pc + 3) ls (.int a :: rest))) : W p l e R s m args below meth c H locs cells slots Q (F0 m pc ls st0) := by
  obtain ⟨hx, hb, -, hml, hown, hts, -, hK⟩ := C0
  obtain ⟨w1, w2, w3, w4, w5, w6⟩ := hw
  have hPc := hP.sub (ws' := wc) isC (nz_fm isC wc hC)
  have hDc := hD.sub (ws' := wc) isC hnC hC
  have hFc := va_free (wc := wc) hD hS hA isC hC
  refine va_calli (va_runV (As := As) (rest := rest) ⟨hx, hb, hml, hown, hts⟩ (hM H.size) ⟨callB_of k1 hts (nz_good w5) rfl rfl rfl (hts _ w4) (hts _ w1) w6 hR, hts _ w2, hts _ w3⟩ ⟨nz_blind hXb, va_recv hK.1 hPc hci he, fun U hU hW => ⟨rfl, by rw [hU], by rw [hU]; exact hPc, nz_k.warm hW hK, hDc.weaken (fun _ _ _ _ => trivial), hX U hU hW⟩⟩ rfl hn hls hst (lv_room hcat) hdg hf) hS (fun q _ h => hFc q h) hFc (fun a u t H1 locs1 ht hvm hw hB hz1 hk1 hS1 => ?_)
  obtain ⟨hP1, hD1⟩ := hB
  rw [ht] at hP1
  obtain ⟨hP2, hD2⟩ := va_join (wr := wr) (w1 := u) hP hD isC isR hC hRr hnR hdis hk1 hFc hP1 hD1
  exact kk a u H1 locs1 hw hP2 hD2 hS1
theorem nz_calVl {post : Int64 → va_W → Prop} (C0 : nz_Cx p s m args meth c cc n r own D cB cI cJ) (hM : nz_Cl l D cB cI cJ X y cc1 n1 r1 rm1 (.ref b :: As) wc post) (hw : nz_wV own idx y cc1 n1 r1 k1) (hn : As.length = k1) (hXb : nz_xb X) (hR : rm1.frames + 1 ≤ R.frames ∧ 8 + (n1 + 11) + rm1.locals ≤ R.locals) (hls : ls.size = n) (hP : va_P D nz_cl ws H) (hD : va_D A ws) (hS : va_S A s.heap H locs) (hA : ∀ q : Nat, s.heap.size ≤ q → A q) (isC isR : List Nat) (hC : isC.map (fun i => ws[i]?) = wc.map some) (hRr : isR.map (fun i => ws[i]?) = wr.map some) (hnC : va_nd isC = true) (hnR : va_nd isR = true) (hdis : ∀ i ∈ isR, i ∉ isC) {ci N1 : Nat} {T1 : u_T} {fs : List Value} (hci : nz_cl[ci]? = some (y.cls, T1, N1)) (he : wc[0]? = some (b, .inr (ci, fs))) (hX : ∀ U : State, U.heap = H → s.WarmedH U.vm → X (va_A wc H.size) U) (hst : st0 = As.reverse ++ .ref b :: rest) (hcat : (rest.map fun v => v.category).sum ≤ 8) (hdg : decode cc pc = .ok (.invokevirtual idx, 3)) (hf : cells + rm1.cells ≤ R.cells ∧ slots + rm1.slots ≤ R.slots)
    (kk : ∀ (a : Int64) (u : va_W) (H1 : Heap) (locs1 : List Loc), post a u → va_P D nz_cl (wr ++ u) H1 → va_D A (wr ++ u) → va_S A s.heap H1 locs1 → W p l e R s m args below meth c H1 locs1 (cells + rm1.cells) (slots + rm1.slots) Q (F0 m (pc + 3) ls (.long a :: rest))) : W p l e R s m args below meth c H locs cells slots Q (F0 m pc ls st0) := by
  obtain ⟨hx, hb, -, hml, hown, hts, -, hK⟩ := C0
  obtain ⟨w1, w2, w3, w4, w5, w6⟩ := hw
  have hPc := hP.sub (ws' := wc) isC (nz_fm isC wc hC)
  have hDc := hD.sub (ws' := wc) isC hnC hC
  have hFc := va_free (wc := wc) hD hS hA isC hC
  refine va_calll (va_runV (As := As) (rest := rest) ⟨hx, hb, hml, hown, hts⟩ (hM H.size) ⟨callB_of k1 hts (nz_good w5) rfl rfl rfl (hts _ w4) (hts _ w1) w6 hR, hts _ w2, hts _ w3⟩ ⟨nz_blind hXb, va_recv hK.1 hPc hci he, fun U hU hW => ⟨rfl, by rw [hU], by rw [hU]; exact hPc, nz_k.warm hW hK, hDc.weaken (fun _ _ _ _ => trivial), hX U hU hW⟩⟩ rfl hn hls hst (lv_room hcat) hdg hf) hS (fun q _ h => hFc q h) hFc (fun a u t H1 locs1 ht hvm hw hB hz1 hk1 hS1 => ?_)
  obtain ⟨hP1, hD1⟩ := hB
  rw [ht] at hP1
  obtain ⟨hP2, hD2⟩ := va_join (wr := wr) (w1 := u) hP hD isC isR hC hRr hnR hdis hk1 hFc hP1 hD1
  exact kk a u H1 locs1 hw hP2 hD2 hS1
theorem nz_calVv {post : va_W → Prop} (C0 : nz_Cx p s m args meth c cc n r own D cB cI cJ) (hM : nz_Cv l D cB cI cJ X y cc1 n1 r1 rm1 (.ref b :: As) wc post) (hw : nz_wV own idx y cc1 n1 r1 k1) (hn : As.length = k1) (hXb : nz_xb X) (hR : rm1.frames + 1 ≤ R.frames ∧ 8 + (n1 + 11) + rm1.locals ≤ R.locals) (hls : ls.size = n) (hP : va_P D nz_cl ws H) (hD : va_D A ws) (hS : va_S A s.heap H locs) (hA : ∀ q : Nat, s.heap.size ≤ q → A q) (isC isR : List Nat) (hC : isC.map (fun i => ws[i]?) = wc.map some) (hRr : isR.map (fun i => ws[i]?) = wr.map some) (hnC : va_nd isC = true) (hnR : va_nd isR = true) (hdis : ∀ i ∈ isR, i ∉ isC) {ci N1 : Nat} {T1 : u_T} {fs : List Value} (hci : nz_cl[ci]? = some (y.cls, T1, N1)) (he : wc[0]? = some (b, .inr (ci, fs))) (hX : ∀ U : State, U.heap = H → s.WarmedH U.vm → X (va_A wc H.size) U) (hst : st0 = As.reverse ++ .ref b :: rest) (hcat : (rest.map fun v => v.category).sum ≤ 8) (hdg : decode cc pc = .ok (.invokevirtual idx, 3)) (hf : cells + rm1.cells ≤ R.cells ∧ slots + rm1.slots ≤ R.slots)
    (kk : ∀ (u : va_W) (H1 : Heap) (locs1 : List Loc), post u → va_P D nz_cl (wr ++ u) H1 → va_D A (wr ++ u) → va_S A s.heap H1 locs1 → W p l e R s m args below meth c H1 locs1 (cells + rm1.cells) (slots + rm1.slots) Q (F0 m (pc + 3) ls (rest))) : W p l e R s m args below meth c H locs cells slots Q (F0 m pc ls st0) := by
  obtain ⟨hx, hb, -, hml, hown, hts, -, hK⟩ := C0
  obtain ⟨w1, w2, w3, w4, w5, w6⟩ := hw
  have hPc := hP.sub (ws' := wc) isC (nz_fm isC wc hC)
  have hDc := hD.sub (ws' := wc) isC hnC hC
  have hFc := va_free (wc := wc) hD hS hA isC hC
  refine va_callv (va_runV (As := As) (rest := rest) ⟨hx, hb, hml, hown, hts⟩ (hM H.size) ⟨callB_of k1 hts (nz_good w5) rfl rfl rfl (hts _ w4) (hts _ w1) w6 hR, hts _ w2, hts _ w3⟩ ⟨nz_blind hXb, va_recv hK.1 hPc hci he, fun U hU hW => ⟨rfl, by rw [hU], by rw [hU]; exact hPc, nz_k.warm hW hK, hDc.weaken (fun _ _ _ _ => trivial), hX U hU hW⟩⟩ rfl hn hls hst (lv_room hcat) hdg hf) hS (fun q _ h => hFc q h) hFc (fun u t H1 locs1 ht hvm hw hB hz1 hk1 hS1 => ?_)
  obtain ⟨hP1, hD1⟩ := hB
  rw [ht] at hP1
  obtain ⟨hP2, hD2⟩ := va_join (wr := wr) (w1 := u) hP hD isC isR hC hRr hnR hdis hk1 hFc hP1 hD1
  exact kk u H1 locs1 hw hP2 hD2 hS1
theorem nz_calSi {post : Int32 → va_W → Prop} (C0 : nz_Cx p s m args meth c cc n r own D cB cI cJ) (hM : nz_Ci l D cB cI cJ X y cc1 n1 r1 rm1 As wc post) (hw : nz_wS own idx y cc1 n1 r1 k1) (hn : As.length = k1) (hXb : nz_xb X) (hR : rm1.frames + 1 ≤ R.frames ∧ 8 + (n1 + 11) + rm1.locals ≤ R.locals) (hls : ls.size = n) (hP : va_P D nz_cl ws H) (hD : va_D A ws) (hS : va_S A s.heap H locs) (hA : ∀ q : Nat, s.heap.size ≤ q → A q) (isC isR : List Nat) (hC : isC.map (fun i => ws[i]?) = wc.map some) (hRr : isR.map (fun i => ws[i]?) = wr.map some) (hnC : va_nd isC = true) (hnR : va_nd isR = true) (hdis : ∀ i ∈ isR, i ∉ isC) (hX : ∀ U : State, U.heap = H → s.WarmedH U.vm → X (va_A wc H.size) U) (hst : st0 = As.reverse ++ rest) (hcat : (rest.map fun v => v.category).sum ≤ 8) (hdg : decode cc pc = .ok (.invokestatic idx, 3)) (hf : cells + rm1.cells ≤ R.cells ∧ slots + rm1.slots ≤ R.slots)
    (kk : ∀ (a : Int32) (u : va_W) (H1 : Heap) (locs1 : List Loc), post a u → va_P D nz_cl (wr ++ u) H1 → va_D A (wr ++ u) → va_S A s.heap H1 locs1 → W p l e R s m args below meth c H1 locs1 (cells + rm1.cells) (slots + rm1.slots) Q (F0 m (pc + 3) ls (.int a :: rest))) : W p l e R s m args below meth c H locs cells slots Q (F0 m pc ls st0) := by
  obtain ⟨hx, hb, -, hml, hown, hts, -, hK⟩ := C0
  obtain ⟨w1, w2, w4, w5, w6⟩ := hw
  have hPc := hP.sub (ws' := wc) isC (nz_fm isC wc hC)
  have hDc := hD.sub (ws' := wc) isC hnC hC
  have hFc := va_free (wc := wc) hD hS hA isC hC
  refine va_calli (va_runS (As := As) (rest := rest) ⟨hx, hb, hml, hown, hts⟩ (hM H.size) ⟨callB_of k1 hts (nz_good w5) rfl rfl rfl (hts _ w4) (hts _ w1) w6 hR, hts _ w2⟩ ⟨nz_blind hXb, fun U hU hW => ⟨rfl, by rw [hU], by rw [hU]; exact hPc, nz_k.warm hW hK, hDc.weaken (fun _ _ _ _ => trivial), hX U hU hW⟩⟩ rfl hn hls hst (lv_room hcat) hdg hf) hS (fun q _ h => hFc q h) hFc (fun a u t H1 locs1 ht hvm hw hB hz1 hk1 hS1 => ?_)
  obtain ⟨hP1, hD1⟩ := hB
  rw [ht] at hP1
  obtain ⟨hP2, hD2⟩ := va_join (wr := wr) (w1 := u) hP hD isC isR hC hRr hnR hdis hk1 hFc hP1 hD1
  exact kk a u H1 locs1 hw hP2 hD2 hS1
theorem nz_calSl {post : Int64 → va_W → Prop} (C0 : nz_Cx p s m args meth c cc n r own D cB cI cJ) (hM : nz_Cl l D cB cI cJ X y cc1 n1 r1 rm1 As wc post) (hw : nz_wS own idx y cc1 n1 r1 k1) (hn : As.length = k1) (hXb : nz_xb X) (hR : rm1.frames + 1 ≤ R.frames ∧ 8 + (n1 + 11) + rm1.locals ≤ R.locals) (hls : ls.size = n) (hP : va_P D nz_cl ws H) (hD : va_D A ws) (hS : va_S A s.heap H locs) (hA : ∀ q : Nat, s.heap.size ≤ q → A q) (isC isR : List Nat) (hC : isC.map (fun i => ws[i]?) = wc.map some) (hRr : isR.map (fun i => ws[i]?) = wr.map some) (hnC : va_nd isC = true) (hnR : va_nd isR = true) (hdis : ∀ i ∈ isR, i ∉ isC) (hX : ∀ U : State, U.heap = H → s.WarmedH U.vm → X (va_A wc H.size) U) (hst : st0 = As.reverse ++ rest) (hcat : (rest.map fun v => v.category).sum ≤ 8) (hdg : decode cc pc = .ok (.invokestatic idx, 3)) (hf : cells + rm1.cells ≤ R.cells ∧ slots + rm1.slots ≤ R.slots)
    (kk : ∀ (a : Int64) (u : va_W) (H1 : Heap) (locs1 : List Loc), post a u → va_P D nz_cl (wr ++ u) H1 → va_D A (wr ++ u) → va_S A s.heap H1 locs1 → W p l e R s m args below meth c H1 locs1 (cells + rm1.cells) (slots + rm1.slots) Q (F0 m (pc + 3) ls (.long a :: rest))) : W p l e R s m args below meth c H locs cells slots Q (F0 m pc ls st0) := by
  obtain ⟨hx, hb, -, hml, hown, hts, -, hK⟩ := C0
  obtain ⟨w1, w2, w4, w5, w6⟩ := hw
  have hPc := hP.sub (ws' := wc) isC (nz_fm isC wc hC)
  have hDc := hD.sub (ws' := wc) isC hnC hC
  have hFc := va_free (wc := wc) hD hS hA isC hC
  refine va_calll (va_runS (As := As) (rest := rest) ⟨hx, hb, hml, hown, hts⟩ (hM H.size) ⟨callB_of k1 hts (nz_good w5) rfl rfl rfl (hts _ w4) (hts _ w1) w6 hR, hts _ w2⟩ ⟨nz_blind hXb, fun U hU hW => ⟨rfl, by rw [hU], by rw [hU]; exact hPc, nz_k.warm hW hK, hDc.weaken (fun _ _ _ _ => trivial), hX U hU hW⟩⟩ rfl hn hls hst (lv_room hcat) hdg hf) hS (fun q _ h => hFc q h) hFc (fun a u t H1 locs1 ht hvm hw hB hz1 hk1 hS1 => ?_)
  obtain ⟨hP1, hD1⟩ := hB
  rw [ht] at hP1
  obtain ⟨hP2, hD2⟩ := va_join (wr := wr) (w1 := u) hP hD isC isR hC hRr hnR hdis hk1 hFc hP1 hD1
  exact kk a u H1 locs1 hw hP2 hD2 hS1
theorem nz_calSv {post : va_W → Prop} (C0 : nz_Cx p s m args meth c cc n r own D cB cI cJ) (hM : nz_Cv l D cB cI cJ X y cc1 n1 r1 rm1 As wc post) (hw : nz_wS own idx y cc1 n1 r1 k1) (hn : As.length = k1) (hXb : nz_xb X) (hR : rm1.frames + 1 ≤ R.frames ∧ 8 + (n1 + 11) + rm1.locals ≤ R.locals) (hls : ls.size = n) (hP : va_P D nz_cl ws H) (hD : va_D A ws) (hS : va_S A s.heap H locs) (hA : ∀ q : Nat, s.heap.size ≤ q → A q) (isC isR : List Nat) (hC : isC.map (fun i => ws[i]?) = wc.map some) (hRr : isR.map (fun i => ws[i]?) = wr.map some) (hnC : va_nd isC = true) (hnR : va_nd isR = true) (hdis : ∀ i ∈ isR, i ∉ isC) (hX : ∀ U : State, U.heap = H → s.WarmedH U.vm → X (va_A wc H.size) U) (hst : st0 = As.reverse ++ rest) (hcat : (rest.map fun v => v.category).sum ≤ 8) (hdg : decode cc pc = .ok (.invokestatic idx, 3)) (hf : cells + rm1.cells ≤ R.cells ∧ slots + rm1.slots ≤ R.slots)
    (kk : ∀ (u : va_W) (H1 : Heap) (locs1 : List Loc), post u → va_P D nz_cl (wr ++ u) H1 → va_D A (wr ++ u) → va_S A s.heap H1 locs1 → W p l e R s m args below meth c H1 locs1 (cells + rm1.cells) (slots + rm1.slots) Q (F0 m (pc + 3) ls (rest))) : W p l e R s m args below meth c H locs cells slots Q (F0 m pc ls st0) := by
  obtain ⟨hx, hb, -, hml, hown, hts, -, hK⟩ := C0
  obtain ⟨w1, w2, w4, w5, w6⟩ := hw
  have hPc := hP.sub (ws' := wc) isC (nz_fm isC wc hC)
  have hDc := hD.sub (ws' := wc) isC hnC hC
  have hFc := va_free (wc := wc) hD hS hA isC hC
  refine va_callv (va_runS (As := As) (rest := rest) ⟨hx, hb, hml, hown, hts⟩ (hM H.size) ⟨callB_of k1 hts (nz_good w5) rfl rfl rfl (hts _ w4) (hts _ w1) w6 hR, hts _ w2⟩ ⟨nz_blind hXb, fun U hU hW => ⟨rfl, by rw [hU], by rw [hU]; exact hPc, nz_k.warm hW hK, hDc.weaken (fun _ _ _ _ => trivial), hX U hU hW⟩⟩ rfl hn hls hst (lv_room hcat) hdg hf) hS (fun q _ h => hFc q h) hFc (fun u t H1 locs1 ht hvm hw hB hz1 hk1 hS1 => ?_)
  obtain ⟨hP1, hD1⟩ := hB
  rw [ht] at hP1
  obtain ⟨hP2, hD2⟩ := va_join (wr := wr) (w1 := u) hP hD isC isR hC hRr hnR hdis hk1 hFc hP1 hD1
  exact kk u H1 locs1 hw hP2 hD2 hS1
theorem nz_calIv {post : va_W → Prop} (C0 : nz_Cx p s m args meth c cc n r own D cB cI cJ) (hM : nz_Cv l D cB cI cJ X y cc1 n1 none rm1 (.ref b :: As) wc post) (hw : nz_wI own idx y cc1 n1 k1) (hn : As.length = k1) (hXb : nz_xb X) (hR : rm1.frames + 1 ≤ R.frames ∧ 8 + (n1 + 11) + rm1.locals ≤ R.locals) (hls : ls.size = n) (hP : va_P D nz_cl ws H) (hD : va_D A ws) (hS : va_S A s.heap H locs) (hA : ∀ q : Nat, s.heap.size ≤ q → A q) (isC isR : List Nat) (hC : isC.map (fun i => ws[i]?) = wc.map some) (hRr : isR.map (fun i => ws[i]?) = wr.map some) (hnC : va_nd isC = true) (hnR : va_nd isR = true) (hdis : ∀ i ∈ isR, i ∉ isC) (hX : ∀ U : State, U.heap = H → s.WarmedH U.vm → X (va_A wc H.size) U) (hst : st0 = As.reverse ++ .ref b :: rest) (hcat : (rest.map fun v => v.category).sum ≤ 8) (hdg : decode cc pc = .ok (.invokespecial idx, 3)) (hf : cells + rm1.cells ≤ R.cells ∧ slots + rm1.slots ≤ R.slots)
    (kk : ∀ (u : va_W) (H1 : Heap) (locs1 : List Loc), post u → va_P D nz_cl (wr ++ u) H1 → va_D A (wr ++ u) → va_S A s.heap H1 locs1 → W p l e R s m args below meth c H1 locs1 (cells + rm1.cells) (slots + rm1.slots) Q (F0 m (pc + 3) ls (rest))) : W p l e R s m args below meth c H locs cells slots Q (F0 m pc ls st0) := by
  obtain ⟨hx, hb, -, hml, hown, hts, -, hK⟩ := C0
  obtain ⟨w1, w2, w4, w5, w3, w6⟩ := hw
  have hPc := hP.sub (ws' := wc) isC (nz_fm isC wc hC)
  have hDc := hD.sub (ws' := wc) isC hnC hC
  have hFc := va_free (wc := wc) hD hS hA isC hC
  refine va_callv (va_runI (As := As) (rest := rest) ⟨hx, hb, hml, hown, hts⟩ (hM H.size) ⟨callB_of k1 hts (nz_good w5) rfl rfl rfl (hts _ w4) (hts _ w1) w6 hR, w3, hts _ w2⟩ ⟨nz_blind hXb, fun U hU hW => ⟨rfl, by rw [hU], by rw [hU]; exact hPc, nz_k.warm hW hK, hDc.weaken (fun _ _ _ _ => trivial), hX U hU hW⟩⟩ rfl hn hls hst (lv_room hcat) hdg hf) hS (fun q _ h => hFc q h) hFc (fun u t H1 locs1 ht hvm hw hB hz1 hk1 hS1 => ?_)
  obtain ⟨hP1, hD1⟩ := hB
  rw [ht] at hP1
  obtain ⟨hP2, hD2⟩ := va_join (wr := wr) (w1 := u) hP hD isC isR hC hRr hnR hdis hk1 hFc hP1 hD1
  exact kk u H1 locs1 hw hP2 hD2 hS1
theorem nz_calSNi {post : Int32 → va_W → Prop} (C0 : nz_Cx p s m args meth c cc n r own D cB cI cJ) (hM : nz_Ci l D cB cI cJ X y cc1 n1 r1 rm1 As wc post) (hw : nz_wSN own idx y host cc1 n1 r1 k1) (hn : As.length = k1) (hXb : nz_xb X) (hR : rm1.frames + 1 ≤ R.frames ∧ 8 + (n1 + 11) + rm1.locals ≤ R.locals) (hls : ls.size = n) (hP : va_P D nz_cl ws H) (hD : va_D A ws) (hS : va_S A s.heap H locs) (hA : ∀ q : Nat, s.heap.size ≤ q → A q) (isC isR : List Nat) (hC : isC.map (fun i => ws[i]?) = wc.map some) (hRr : isR.map (fun i => ws[i]?) = wr.map some) (hnC : va_nd isC = true) (hnR : va_nd isR = true) (hdis : ∀ i ∈ isR, i ∉ isC) (hX : ∀ U : State, U.heap = H → s.WarmedH U.vm → X (va_A wc H.size) U) (hst : st0 = As.reverse ++ rest) (hcat : (rest.map fun v => v.category).sum ≤ 8) (hdg : decode cc pc = .ok (.invokestatic idx, 3)) (hf : cells + rm1.cells ≤ R.cells ∧ slots + rm1.slots ≤ R.slots)
    (kk : ∀ (a : Int32) (u : va_W) (H1 : Heap) (locs1 : List Loc), post a u → va_P D nz_cl (wr ++ u) H1 → va_D A (wr ++ u) → va_S A s.heap H1 locs1 → W p l e R s m args below meth c H1 locs1 (cells + rm1.cells) (slots + rm1.slots) Q (F0 m (pc + 3) ls (.int a :: rest))) : W p l e R s m args below meth c H locs cells slots Q (F0 m pc ls st0) := by
  obtain ⟨hx, hb, -, hml, hown, hts, -, hK⟩ := C0
  obtain ⟨w1, w2, w4, w5, w6⟩ := hw
  have hPc := hP.sub (ws' := wc) isC (nz_fm isC wc hC)
  have hDc := hD.sub (ws' := wc) isC hnC hC
  have hFc := va_free (wc := wc) hD hS hA isC hC
  refine va_calli (va_runSN (As := As) (rest := rest) ⟨hx, hb, hml, hown, hts⟩ (hM H.size) ⟨va_cnB (host := host) k1 hts (nz_good w5) rfl rfl rfl (hK.2 _ w1) (hts _ w4) w6 hR, hts _ w2, trivial⟩ ⟨nz_blind hXb, fun U hU hW => ⟨rfl, by rw [hU], by rw [hU]; exact hPc, nz_k.warm hW hK, hDc.weaken (fun _ _ _ _ => trivial), hX U hU hW⟩⟩ rfl hn hls hst (lv_room hcat) hdg hf) hS (fun q _ h => hFc q h) hFc (fun a u t H1 locs1 ht hvm hw hB hz1 hk1 hS1 => ?_)
  obtain ⟨hP1, hD1⟩ := hB
  rw [ht] at hP1
  obtain ⟨hP2, hD2⟩ := va_join (wr := wr) (w1 := u) hP hD isC isR hC hRr hnR hdis hk1 hFc hP1 hD1
  exact kk a u H1 locs1 hw hP2 hD2 hS1
theorem nz_calSNl {post : Int64 → va_W → Prop} (C0 : nz_Cx p s m args meth c cc n r own D cB cI cJ) (hM : nz_Cl l D cB cI cJ X y cc1 n1 r1 rm1 As wc post) (hw : nz_wSN own idx y host cc1 n1 r1 k1) (hn : As.length = k1) (hXb : nz_xb X) (hR : rm1.frames + 1 ≤ R.frames ∧ 8 + (n1 + 11) + rm1.locals ≤ R.locals) (hls : ls.size = n) (hP : va_P D nz_cl ws H) (hD : va_D A ws) (hS : va_S A s.heap H locs) (hA : ∀ q : Nat, s.heap.size ≤ q → A q) (isC isR : List Nat) (hC : isC.map (fun i => ws[i]?) = wc.map some) (hRr : isR.map (fun i => ws[i]?) = wr.map some) (hnC : va_nd isC = true) (hnR : va_nd isR = true) (hdis : ∀ i ∈ isR, i ∉ isC) (hX : ∀ U : State, U.heap = H → s.WarmedH U.vm → X (va_A wc H.size) U) (hst : st0 = As.reverse ++ rest) (hcat : (rest.map fun v => v.category).sum ≤ 8) (hdg : decode cc pc = .ok (.invokestatic idx, 3)) (hf : cells + rm1.cells ≤ R.cells ∧ slots + rm1.slots ≤ R.slots)
    (kk : ∀ (a : Int64) (u : va_W) (H1 : Heap) (locs1 : List Loc), post a u → va_P D nz_cl (wr ++ u) H1 → va_D A (wr ++ u) → va_S A s.heap H1 locs1 → W p l e R s m args below meth c H1 locs1 (cells + rm1.cells) (slots + rm1.slots) Q (F0 m (pc + 3) ls (.long a :: rest))) : W p l e R s m args below meth c H locs cells slots Q (F0 m pc ls st0) := by
  obtain ⟨hx, hb, -, hml, hown, hts, -, hK⟩ := C0
  obtain ⟨w1, w2, w4, w5, w6⟩ := hw
  have hPc := hP.sub (ws' := wc) isC (nz_fm isC wc hC)
  have hDc := hD.sub (ws' := wc) isC hnC hC
  have hFc := va_free (wc := wc) hD hS hA isC hC
  refine va_calll (va_runSN (As := As) (rest := rest) ⟨hx, hb, hml, hown, hts⟩ (hM H.size) ⟨va_cnB (host := host) k1 hts (nz_good w5) rfl rfl rfl (hK.2 _ w1) (hts _ w4) w6 hR, hts _ w2, trivial⟩ ⟨nz_blind hXb, fun U hU hW => ⟨rfl, by rw [hU], by rw [hU]; exact hPc, nz_k.warm hW hK, hDc.weaken (fun _ _ _ _ => trivial), hX U hU hW⟩⟩ rfl hn hls hst (lv_room hcat) hdg hf) hS (fun q _ h => hFc q h) hFc (fun a u t H1 locs1 ht hvm hw hB hz1 hk1 hS1 => ?_)
  obtain ⟨hP1, hD1⟩ := hB
  rw [ht] at hP1
  obtain ⟨hP2, hD2⟩ := va_join (wr := wr) (w1 := u) hP hD isC isR hC hRr hnR hdis hk1 hFc hP1 hD1
  exact kk a u H1 locs1 hw hP2 hD2 hS1
theorem nz_calINv {post : va_W → Prop} (C0 : nz_Cx p s m args meth c cc n r own D cB cI cJ) (hM : nz_Cv l D cB cI cJ X y cc1 n1 none rm1 (.ref b :: As) wc post) (hw : nz_wIN own idx y host cc1 n1 k1) (hn : As.length = k1) (hXb : nz_xb X) (hR : rm1.frames + 1 ≤ R.frames ∧ 8 + (n1 + 11) + rm1.locals ≤ R.locals) (hls : ls.size = n) (hP : va_P D nz_cl ws H) (hD : va_D A ws) (hS : va_S A s.heap H locs) (hA : ∀ q : Nat, s.heap.size ≤ q → A q) (isC isR : List Nat) (hC : isC.map (fun i => ws[i]?) = wc.map some) (hRr : isR.map (fun i => ws[i]?) = wr.map some) (hnC : va_nd isC = true) (hnR : va_nd isR = true) (hdis : ∀ i ∈ isR, i ∉ isC) (hX : ∀ U : State, U.heap = H → s.WarmedH U.vm → X (va_A wc H.size) U) (hst : st0 = As.reverse ++ .ref b :: rest) (hcat : (rest.map fun v => v.category).sum ≤ 8) (hdg : decode cc pc = .ok (.invokespecial idx, 3)) (hf : cells + rm1.cells ≤ R.cells ∧ slots + rm1.slots ≤ R.slots)
    (kk : ∀ (u : va_W) (H1 : Heap) (locs1 : List Loc), post u → va_P D nz_cl (wr ++ u) H1 → va_D A (wr ++ u) → va_S A s.heap H1 locs1 → W p l e R s m args below meth c H1 locs1 (cells + rm1.cells) (slots + rm1.slots) Q (F0 m (pc + 3) ls (rest))) : W p l e R s m args below meth c H locs cells slots Q (F0 m pc ls st0) := by
  obtain ⟨hx, hb, -, hml, hown, hts, -, hK⟩ := C0
  obtain ⟨w1, w2, w4, w5, w3, w6⟩ := hw
  have hPc := hP.sub (ws' := wc) isC (nz_fm isC wc hC)
  have hDc := hD.sub (ws' := wc) isC hnC hC
  have hFc := va_free (wc := wc) hD hS hA isC hC
  refine va_callv (va_runIN (As := As) (rest := rest) ⟨hx, hb, hml, hown, hts⟩ (hM H.size) ⟨va_cnB (host := host) k1 hts (nz_good w5) rfl rfl rfl (hK.2 _ w1) (hts _ w4) w6 hR, w3, hts _ w2⟩ ⟨nz_blind hXb, fun U hU hW => ⟨rfl, by rw [hU], by rw [hU]; exact hPc, nz_k.warm hW hK, hDc.weaken (fun _ _ _ _ => trivial), hX U hU hW⟩⟩ rfl hn hls hst (lv_room hcat) hdg hf) hS (fun q _ h => hFc q h) hFc (fun u t H1 locs1 ht hvm hw hB hz1 hk1 hS1 => ?_)
  obtain ⟨hP1, hD1⟩ := hB
  rw [ht] at hP1
  obtain ⟨hP2, hD2⟩ := va_join (wr := wr) (w1 := u) hP hD isC isR hC hRr hnR hdis hk1 hFc hP1 hD1
  exact kk u H1 locs1 hw hP2 hD2 hS1
/-- returns -/
theorem nz_reti {post : Int32 → va_W → Prop} {v : Int32} {w : va_W} (C0 : nz_Cx p s m args meth c cc n (some .int) own D cB cI cJ) (hP : va_P D nz_cl w H) (hD : va_D A w) (hS : va_S A s.heap H locs) (hp : post v w) (hdg : decode cc pc = .ok (.ireturn, 1)) : W p l e R s m args below meth c H locs cells slots (MQ below (va_Qi post (nz_bw D A) A) args s cells slots A) (F0 m pc ls [.int v]) :=
  W.iret C0.1 C0.2.1 C0.2.2.1 (fun t ht hW => ⟨⟨v, w, rfl, hp, by rw [ht]; exact hP, hD⟩, hS.F ht⟩) hS.2.2 hdg C0.2.2.2.2.2.2.1
theorem nz_retz {post : Int32 → va_W → Prop} {v : Int32} {w : va_W} {ty : FieldType} (C0 : nz_Cx p s m args meth c cc n (some ty) own D cB cI cJ) (hn : narrow ty (.int v) = .int v) (hP : va_P D nz_cl w H) (hD : va_D A w) (hS : va_S A s.heap H locs) (hp : post v w) (hdg : decode cc pc = .ok (.ireturn, 1)) : W p l e R s m args below meth c H locs cells slots (MQ below (va_Qi post (nz_bw D A) A) args s cells slots A) (F0 m pc ls [.int v]) :=
  W.zret C0.1 C0.2.1 C0.2.2.1 hn (fun t ht hW => ⟨⟨v, w, rfl, hp, by rw [ht]; exact hP, hD⟩, hS.F ht⟩) hS.2.2 hdg C0.2.2.2.2.2.2.1
theorem nz_retl {post : Int64 → va_W → Prop} {v : Int64} {w : va_W} (C0 : nz_Cx p s m args meth c cc n (some .long) own D cB cI cJ) (hP : va_P D nz_cl w H) (hD : va_D A w) (hS : va_S A s.heap H locs) (hp : post v w) (hdg : decode cc pc = .ok (.lreturn, 1)) : W p l e R s m args below meth c H locs cells slots (MQ below (va_Ql post (nz_bw D A) A) args s cells slots A) (F0 m pc ls [.long v]) :=
  W.lret C0.1 C0.2.1 C0.2.2.1 (fun t ht hW => ⟨⟨v, w, rfl, hp, by rw [ht]; exact hP, hD⟩, hS.F ht⟩) hS.2.2 hdg C0.2.2.2.2.2.2.1
theorem nz_retv {post : va_W → Prop} {w : va_W} (C0 : nz_Cx p s m args meth c cc n none own D cB cI cJ) (hP : va_P D nz_cl w H) (hD : va_D A w) (hS : va_S A s.heap H locs) (hp : post w) (hdg : decode cc pc = .ok (.return_, 1)) : W p l e R s m args below meth c H locs cells slots (MQ below (va_Qv post (nz_bw D A) A) args s cells slots A) (F0 m pc ls []) :=
  W.vret C0.1 C0.2.1 C0.2.2.1 (fun t ht hW => ⟨⟨w, rfl, hp, by rw [ht]; exact hP, hD⟩, hS.F ht⟩) hS.2.2 hdg C0.2.2.2.2.2.2.1
/-- a new array of a class that is known -/
theorem nz_newz (C0 : nz_Cx p s m args meth c cc n r own D cB cI cJ) (hP : va_P D nz_cl ws H) (hD : va_D A ws) (hS : va_S A s.heap H locs) (hA : ∀ q : Nat, s.heap.size ≤ q → A q) {atype : ArrayType} {ty : FieldType} (harr : Cond.arrayClass ty ∈ nz_gd) (hty : newarray.typeOf atype = ty) (t0 : Nat) {cA : ClassId} (ht : (nz_ty cB cI cJ)[t0]? = some (cA, ty)) {k : Int32} {N' : Nat} {a0 : vp_A} (ha : ∀ cA : ClassId, vp_cell cA a0 = arrV cA N' (fun _ => defaultValue ty)) (hk0 : ¬ k < 0) (hN : k.toNatClampNeg = N') (hbytes : N' * componentBytes ty ≤ 536870912) (hcells : cells + 1 ≤ R.cells) (hslots : slots + N' ≤ R.slots) (hdg : decode cc pc = .ok (.newarray atype, 2))
    (kk : ∀ (q : Nat) (H1 : Heap), va_P D nz_cl (ws ++ [(q, .inl (cA, a0))]) H1 → va_D A (ws ++ [(q, .inl (cA, a0))]) → va_S A s.heap H1 locs → W p l e R s m args below meth c H1 locs (cells + 1) (slots + N') Q (F0 m (pc + 2) ls (.ref q :: rest))) : W p l e R s m args below meth c H locs cells slots Q (F0 m pc ls (.int k :: rest)) := by
  obtain ⟨hx, hb, -, hml, hown, hts, -, hK⟩ := C0
  refine va_newa hx hb (ty := ty) (by rw [hty]; exact hts _ harr) hty hK.1 hP hD hS hA ha hk0 hN hbytes hcells hslots hdg (fun q cB1 H1 hK1 hP1 hD1 hS1 => ?_)
  have e1 := (hK1.2 t0 (cA, ty) (by
    match t0, ht with
    | 0, ht => exact ht
    | 1, ht => exact ht
    | 2, ht => exact ht
    | t + 3, ht => simp [nz_ty] at ht)).2
  have e2 := (hK1.2 3 (cB1, ty) rfl).2
  have e : cB1 = cA := by
    subst hty
    cases atype <;> exact Option.some.inj (e2.symm.trans e1)
  subst e
  exact kk q H1 hP1 hD1 hS1
end GENC
section GENS
variable {p : Program} {l : Launch} {e : Env} {R : Room} {s : State} {m : MethodId} {args : Array Value} {below : List Frame} {meth : Method} {c : Code} {H : Heap} {locs : List Loc} {cells slots : Nat} {Q : State → Prop}
variable {cc : ByteArray} {pc : Nat} {ls : Array Slot} {rest : List Value} {D : va_G} {cl : List vw_C} {A : Nat → Prop} {a : Nat} {tys : List (ClassId × FieldType)} {ws : va_W} {H0 : Heap}
theorem nz_ctopi {x v : Int32} (h : x = v) (k : W p l e R s m args below meth c H locs cells slots Q (F0 m pc ls (.int v :: rest))) : W p l e R s m args below meth c H locs cells slots Q (F0 m pc ls (.int x :: rest)) := by subst h; exact k
theorem nz_ctopl {x v : Int64} (h : x = v) (k : W p l e R s m args below meth c H locs cells slots Q (F0 m pc ls (.long v :: rest))) : W p l e R s m args below meth c H locs cells slots Q (F0 m pc ls (.long x :: rest)) := by subst h; exact k
theorem nz_iastE (hexec : p.tables.exec = Jvm.exec) (hb : c.code = cc) (hK : va_K D cl tys s) (hP : va_P D cl ws H) (hD : va_D A ws) (hS : va_S A H0 H locs) (q0 t0 : Nat) {cA : ClassId} {n : Nat} {f : Nat → Int32} (ha : ws[q0]? = some (a, .inl (cA, n, .inl f))) (ht : tys[t0]? = some (cA, .int)) {i : Int32} {x : Int32} (hin : vp_in i n) (hdg : decode cc pc = .ok (.iastore, 1))
    (kk : ∀ (H1 : Heap) (locs1 : List Loc) (g : Nat → Int32), g = upd f i.toNatClampNeg x → va_P D cl (ws.set q0 (a, .inl (cA, n, .inl g))) H1 → va_D A (ws.set q0 (a, .inl (cA, n, .inl g))) → va_S A H0 H1 locs1 → W p l e R s m args below meth c H1 locs1 cells slots Q (F0 m (pc + 1) ls rest)) : W p l e R s m args below meth c H locs cells slots Q (F0 m pc ls (.int x :: .int i :: .ref a :: rest)) :=
  va_iast hexec hb hK hP hD hS q0 t0 ha ht hin hdg (fun H1 locs1 h1 h2 h3 => kk H1 locs1 _ rfl h1 h2 h3)
theorem nz_bastE (hexec : p.tables.exec = Jvm.exec) (hb : c.code = cc) (hK : va_K D cl tys s) (hP : va_P D cl ws H) (hD : va_D A ws) (hS : va_S A H0 H locs) (q0 t0 : Nat) {cA : ClassId} {n : Nat} {f : Nat → Int32} (ha : ws[q0]? = some (a, .inl (cA, n, .inl f))) (ht : tys[t0]? = some (cA, .byte)) {i : Int32} {x : Int32} (hin : vp_in i n) (hdg : decode cc pc = .ok (.bastore, 1))
    (kk : ∀ (H1 : Heap) (locs1 : List Loc) (g : Nat → Int32), g = upd f i.toNatClampNeg (vp_nar .byte x) → va_P D cl (ws.set q0 (a, .inl (cA, n, .inl g))) H1 → va_D A (ws.set q0 (a, .inl (cA, n, .inl g))) → va_S A H0 H1 locs1 → W p l e R s m args below meth c H1 locs1 cells slots Q (F0 m (pc + 1) ls rest)) : W p l e R s m args below meth c H locs cells slots Q (F0 m pc ls (.int x :: .int i :: .ref a :: rest)) :=
  va_bast hexec hb hK hP hD hS q0 t0 ha ht hin hdg (fun H1 locs1 h1 h2 h3 => kk H1 locs1 _ rfl h1 h2 h3)
theorem nz_lastE (hexec : p.tables.exec = Jvm.exec) (hb : c.code = cc) (hK : va_K D cl tys s) (hP : va_P D cl ws H) (hD : va_D A ws) (hS : va_S A H0 H locs) (q0 t0 : Nat) {cA : ClassId} {n : Nat} {f : Nat → Int64} (ha : ws[q0]? = some (a, .inl (cA, n, .inr (.inl f)))) (ht : tys[t0]? = some (cA, .long)) {i : Int32} {x : Int64} (hin : vp_in i n) (hdg : decode cc pc = .ok (.lastore, 1))
    (kk : ∀ (H1 : Heap) (locs1 : List Loc) (g : Nat → Int64), va_P D cl (ws.set q0 (a, .inl (cA, n, .inr (.inl g)))) H1 → va_D A (ws.set q0 (a, .inl (cA, n, .inr (.inl g)))) → va_S A H0 H1 locs1 → W p l e R s m args below meth c H1 locs1 cells slots Q (F0 m (pc + 1) ls rest)) : W p l e R s m args below meth c H locs cells slots Q (F0 m pc ls (.long x :: .int i :: .ref a :: rest)) :=
  va_last hexec hb hK hP hD hS q0 t0 ha ht hin hdg (fun H1 locs1 h1 h2 h3 => kk H1 locs1 _ h1 h2 h3)
theorem nz_upd0 (k : Nat) : upd (fun _ => 0) k 0 = (fun _ => (0 : Int32)) := by funext j; unfold upd; split <;> rfl
theorem nz_iastZ (hexec : p.tables.exec = Jvm.exec) (hb : c.code = cc) (hK : va_K D cl tys s) (hP : va_P D cl ws H) (hD : va_D A ws) (hS : va_S A H0 H locs) (q0 t0 : Nat) {cA : ClassId} {n : Nat} (ha : ws[q0]? = some (a, .inl (cA, n, .inl (fun _ => 0)))) (ht : tys[t0]? = some (cA, .int)) {i : Int32} (hin : vp_in i n) (hdg : decode cc pc = .ok (.iastore, 1))
    (kk : ∀ (H1 : Heap) (locs1 : List Loc) (g : Nat → Int32), g = (fun _ => 0) → va_P D cl (ws.set q0 (a, .inl (cA, n, .inl g))) H1 → va_D A (ws.set q0 (a, .inl (cA, n, .inl g))) → va_S A H0 H1 locs1 → W p l e R s m args below meth c H1 locs1 cells slots Q (F0 m (pc + 1) ls rest)) : W p l e R s m args below meth c H locs cells slots Q (F0 m pc ls (.int 0 :: .int i :: .ref a :: rest)) :=
  va_iast hexec hb hK hP hD hS q0 t0 ha ht hin hdg (fun H1 locs1 h1 h2 h3 => kk H1 locs1 _ (nz_upd0 _) h1 h2 h3)
theorem nz_vin {i : Int32} {n : Nat} (h : ¬ i < 0 ∧ i.toNatClampNeg < n) : vp_in i n := fun q => q.elim h.1 (fun q => absurd h.2 (Nat.not_lt.mpr q))
theorem nz_cmp_self (x : Int64) : lg_cmp x x = 0 := (lg_cmp_eq x x).mpr rfl
end GENS
end
section
theorem k_1 : Cond.initialized R_NF ∈ nz_gd := nz_gm (List.mem_of_getElem? (i := 93) (by decide +kernel)) rfl
theorem k_14 : Cond.initialized R_Deaths ∈ nz_gd := nz_gm (List.mem_of_getElem? (i := 106) (by decide +kernel)) rfl
theorem k_17 : Cond.initialized R_Mo ∈ nz_gd := nz_gm (List.mem_of_getElem? (i := 109) (by decide +kernel)) rfl
theorem k_44 : Cond.fieldLink R_NF 282 "NameFall$Places" "count" "I" ∈ nz_gd := nz_gm (List.mem_of_getElem? (i := 136) (by decide +kernel)) rfl
theorem k_94 : Cond.fieldLink R_NF 210 "NameFall$Meanings" "count" "I" ∈ nz_gd := nz_gm (List.mem_of_getElem? (i := 186) (by decide +kernel)) rfl
theorem k_100 : Cond.fieldLink R_NF 283 "NameFall$Meanings" "turns" "I" ∈ nz_gd := nz_gm (List.mem_of_getElem? (i := 192) (by decide +kernel)) rfl
theorem k_132 : Cond.fieldLink R_NF 241 "NameFall$Words" "count" "I" ∈ nz_gd := nz_gm (List.mem_of_getElem? (i := 224) (by decide +kernel)) rfl
theorem k_158 : Cond.fieldLink R_NF 231 "NameFall$Persons" "count" "I" ∈ nz_gd := nz_gm (List.mem_of_getElem? (i := 250) (by decide +kernel)) rfl
theorem k_161 : Cond.fieldLink R_NF 286 "NameFall$Persons" "talks" "I" ∈ nz_gd := nz_gm (List.mem_of_getElem? (i := 253) (by decide +kernel)) rfl
theorem k_217 : Cond.fieldLink R_NF 193 "NameFall$Land" "places" "LNameFall$Places;" ∈ nz_gd := nz_gm (List.mem_of_getElem? (i := 309) (by decide +kernel)) rfl
theorem k_222 : Cond.fieldLink R_NF 206 "NameFall$Land" "meanings" "LNameFall$Meanings;" ∈ nz_gd := nz_gm (List.mem_of_getElem? (i := 314) (by decide +kernel)) rfl
theorem k_225 : Cond.fieldLink R_NF 141 "NameFall$Land" "words" "LNameFall$Words;" ∈ nz_gd := nz_gm (List.mem_of_getElem? (i := 317) (by decide +kernel)) rfl
theorem k_231 : Cond.fieldLink R_NF 111 "NameFall$Land" "persons" "LNameFall$Persons;" ∈ nz_gd := nz_gm (List.mem_of_getElem? (i := 323) (by decide +kernel)) rfl
theorem k_370 : Cond.fieldLink R_NF 92 "NameFall$Reader" "fault" "I" ∈ nz_gd := nz_gm (List.mem_of_getElem? (i := 462) (by decide +kernel)) rfl
theorem k_372 : Cond.fieldLink R_NF 101 "NameFall$Reader" "faultPlace" "I" ∈ nz_gd := nz_gm (List.mem_of_getElem? (i := 464) (by decide +kernel)) rfl
theorem k_393 : Cond.fieldLink R_Deaths 24 "NameFall$Deaths" "count" "I" ∈ nz_gd := nz_gm (List.mem_of_getElem? (i := 485) (by decide +kernel)) rfl
theorem k_394 : Cond.fieldLink R_NF 289 "NameFall$Deaths" "count" "I" ∈ nz_gd := nz_gm (List.mem_of_getElem? (i := 486) (by decide +kernel)) rfl
theorem k_395 : Cond.fieldLink R_Deaths 28 "NameFall$Deaths" "time" "I" ∈ nz_gd := nz_gm (List.mem_of_getElem? (i := 487) (by decide +kernel)) rfl
theorem k_396 : Cond.fieldLink R_NF 290 "NameFall$Deaths" "time" "I" ∈ nz_gd := nz_gm (List.mem_of_getElem? (i := 488) (by decide +kernel)) rfl
theorem k_460 : Cond.fieldLink R_NF 17 "NameFall" "tape" "[B" ∈ nz_gd := nz_gm (List.mem_of_getElem? (i := 552) (by decide +kernel)) rfl
theorem k_461 : Cond.fieldLink R_NF 76 "NameFall" "taped" "I" ∈ nz_gd := nz_gm (List.mem_of_getElem? (i := 553) (by decide +kernel)) rfl
theorem k_462 : Cond.fieldLink R_NF 21 "NameFall" "current" "LNameFall$Land;" ∈ nz_gd := nz_gm (List.mem_of_getElem? (i := 554) (by decide +kernel)) rfl
theorem k_464 : Cond.fieldLink R_NF 38 "NameFall" "reader" "LNameFall$Reader;" ∈ nz_gd := nz_gm (List.mem_of_getElem? (i := 556) (by decide +kernel)) rfl
theorem k_465 : Cond.fieldLink R_NF 45 "NameFall" "deaths" "LNameFall$Deaths;" ∈ nz_gd := nz_gm (List.mem_of_getElem? (i := 557) (by decide +kernel)) rfl
theorem k_498 : Cond.methodLink R_NF 80 y_NF_putBytes ∈ nz_gd := nz_gm (List.mem_of_getElem? (i := 590) (by decide +kernel)) rfl
theorem k_500 : Cond.instanceMethod y_NF_putBytes ∈ nz_gd := nz_gm (List.mem_of_getElem? (i := 592) (by decide +kernel)) rfl
theorem k_501 : Cond.code y_NF_putBytes b_NF_putBytes 3 none ∈ nz_gd := nz_gm (List.mem_of_getElem? (i := 593) (by decide +kernel)) rfl
theorem k_694 : Cond.methodLink R_NF 104 y_NF_isPerson ∈ nz_gd := nz_gm (List.mem_of_getElem? (i := 786) (by decide +kernel)) rfl
theorem k_696 : Cond.instanceMethod y_NF_isPerson ∈ nz_gd := nz_gm (List.mem_of_getElem? (i := 788) (by decide +kernel)) rfl
theorem k_697 : Cond.code y_NF_isPerson b_NF_isPerson 2 (some .boolean) ∈ nz_gd := nz_gm (List.mem_of_getElem? (i := 789) (by decide +kernel)) rfl
theorem k_709 : Cond.methodLink R_NF 124 y_Deaths_takeBack ∈ nz_gd := nz_gm (List.mem_of_getElem? (i := 801) (by decide +kernel)) rfl
theorem k_710 : Cond.instanceMethod y_Deaths_takeBack ∈ nz_gd := nz_gm (List.mem_of_getElem? (i := 802) (by decide +kernel)) rfl
theorem k_711 : Cond.selects R_Deaths y_Deaths_takeBack y_Deaths_takeBack ∈ nz_gd := nz_gm (List.mem_of_getElem? (i := 803) (by decide +kernel)) rfl
theorem k_712 : Cond.code y_Deaths_takeBack b_Deaths_takeBack 2 (some .boolean) ∈ nz_gd := nz_gm (List.mem_of_getElem? (i := 804) (by decide +kernel)) rfl
theorem k_717 : Cond.methodLink R_NF 127 y_Deaths_goOn ∈ nz_gd := nz_gm (List.mem_of_getElem? (i := 809) (by decide +kernel)) rfl
theorem k_718 : Cond.instanceMethod y_Deaths_goOn ∈ nz_gd := nz_gm (List.mem_of_getElem? (i := 810) (by decide +kernel)) rfl
theorem k_719 : Cond.selects R_Deaths y_Deaths_goOn y_Deaths_goOn ∈ nz_gd := nz_gm (List.mem_of_getElem? (i := 811) (by decide +kernel)) rfl
theorem k_720 : Cond.code y_Deaths_goOn b_Deaths_goOn 2 (some .int) ∈ nz_gd := nz_gm (List.mem_of_getElem? (i := 812) (by decide +kernel)) rfl
theorem k_721 : Cond.constant R_Deaths 31 (100000) ∈ nz_gd := nz_gm (List.mem_of_getElem? (i := 813) (by decide +kernel)) rfl
theorem k_760 : Cond.methodLink R_NF 138 y_NF_isWord ∈ nz_gd := nz_gm (List.mem_of_getElem? (i := 852) (by decide +kernel)) rfl
theorem k_762 : Cond.instanceMethod y_NF_isWord ∈ nz_gd := nz_gm (List.mem_of_getElem? (i := 854) (by decide +kernel)) rfl
theorem k_763 : Cond.code y_NF_isWord b_NF_isWord 2 (some .boolean) ∈ nz_gd := nz_gm (List.mem_of_getElem? (i := 855) (by decide +kernel)) rfl
theorem k_774 : Cond.methodLink R_NF 161 y_NF_canSpeak ∈ nz_gd := nz_gm (List.mem_of_getElem? (i := 866) (by decide +kernel)) rfl
theorem k_776 : Cond.instanceMethod y_NF_canSpeak ∈ nz_gd := nz_gm (List.mem_of_getElem? (i := 868) (by decide +kernel)) rfl
theorem k_777 : Cond.code y_NF_canSpeak b_NF_canSpeak 5 (some .boolean) ∈ nz_gd := nz_gm (List.mem_of_getElem? (i := 869) (by decide +kernel)) rfl
theorem k_800 : Cond.constant R_NF 172 (33554431) ∈ nz_gd := nz_gm (List.mem_of_getElem? (i := 892) (by decide +kernel)) rfl
theorem k_809 : Cond.methodLink R_NF 176 y_NF_isMeaning ∈ nz_gd := nz_gm (List.mem_of_getElem? (i := 901) (by decide +kernel)) rfl
theorem k_811 : Cond.instanceMethod y_NF_isMeaning ∈ nz_gd := nz_gm (List.mem_of_getElem? (i := 903) (by decide +kernel)) rfl
theorem k_812 : Cond.code y_NF_isMeaning b_NF_isMeaning 2 (some .boolean) ∈ nz_gd := nz_gm (List.mem_of_getElem? (i := 904) (by decide +kernel)) rfl
theorem k_867 : Cond.methodLink R_NF 190 y_NF_isPlace ∈ nz_gd := nz_gm (List.mem_of_getElem? (i := 959) (by decide +kernel)) rfl
theorem k_869 : Cond.instanceMethod y_NF_isPlace ∈ nz_gd := nz_gm (List.mem_of_getElem? (i := 961) (by decide +kernel)) rfl
theorem k_870 : Cond.code y_NF_isPlace b_NF_isPlace 2 (some .boolean) ∈ nz_gd := nz_gm (List.mem_of_getElem? (i := 962) (by decide +kernel)) rfl
theorem k_958 : Cond.constantLong R_NF 242 (-1) ∈ nz_gd := nz_gm (List.mem_of_getElem? (i := 1050) (by decide +kernel)) rfl
theorem k_1018 : Cond.fieldLink R_Mo 7 "NameFallModel" "tape" "[B" ∈ nz_gd := nz_gm (List.mem_of_getElem? (i := 1110) (by decide +kernel)) rfl
theorem k_1020 : Cond.fieldLink R_Mo 237 "NameFallModel" "taped" "I" ∈ nz_gd := nz_gm (List.mem_of_getElem? (i := 1112) (by decide +kernel)) rfl
theorem k_1022 : Cond.fieldLink R_Mo 145 "NameFallModel" "faultKind" "I" ∈ nz_gd := nz_gm (List.mem_of_getElem? (i := 1114) (by decide +kernel)) rfl
theorem k_1023 : Cond.fieldLink R_Mo 16 "NameFallModel" "faultPlace" "I" ∈ nz_gd := nz_gm (List.mem_of_getElem? (i := 1115) (by decide +kernel)) rfl
theorem k_1029 : Cond.fieldLink R_Mo 20 "NameFallModel" "places" "[I" ∈ nz_gd := nz_gm (List.mem_of_getElem? (i := 1121) (by decide +kernel)) rfl
theorem k_1030 : Cond.fieldLink R_Mo 24 "NameFallModel" "meanings" "[I" ∈ nz_gd := nz_gm (List.mem_of_getElem? (i := 1122) (by decide +kernel)) rfl
theorem k_1031 : Cond.fieldLink R_Mo 27 "NameFallModel" "words" "[I" ∈ nz_gd := nz_gm (List.mem_of_getElem? (i := 1123) (by decide +kernel)) rfl
theorem k_1032 : Cond.fieldLink R_Mo 30 "NameFallModel" "turns" "[I" ∈ nz_gd := nz_gm (List.mem_of_getElem? (i := 1124) (by decide +kernel)) rfl
theorem k_1033 : Cond.fieldLink R_Mo 33 "NameFallModel" "persons" "[I" ∈ nz_gd := nz_gm (List.mem_of_getElem? (i := 1125) (by decide +kernel)) rfl
theorem k_1034 : Cond.fieldLink R_Mo 36 "NameFallModel" "talks" "[I" ∈ nz_gd := nz_gm (List.mem_of_getElem? (i := 1126) (by decide +kernel)) rfl
theorem k_1057 : Cond.fieldLink R_Mo 240 "NameFallModel" "bank" "I" ∈ nz_gd := nz_gm (List.mem_of_getElem? (i := 1149) (by decide +kernel)) rfl
theorem k_1063 : Cond.fieldLink R_Mo 249 "NameFallModel" "deaths" "I" ∈ nz_gd := nz_gm (List.mem_of_getElem? (i := 1155) (by decide +kernel)) rfl
theorem k_1064 : Cond.fieldLink R_Mo 318 "NameFallModel" "time" "I" ∈ nz_gd := nz_gm (List.mem_of_getElem? (i := 1156) (by decide +kernel)) rfl
theorem k_1322 : Cond.methodLink R_Mo 309 y_Mo_isPerson ∈ nz_gd := nz_gm (List.mem_of_getElem? (i := 1414) (by decide +kernel)) rfl
theorem k_1324 : Cond.instanceMethod y_Mo_isPerson ∈ nz_gd := nz_gm (List.mem_of_getElem? (i := 1416) (by decide +kernel)) rfl
theorem k_1325 : Cond.code y_Mo_isPerson b_Mo_isPerson 2 (some .boolean) ∈ nz_gd := nz_gm (List.mem_of_getElem? (i := 1417) (by decide +kernel)) rfl
theorem k_1326 : Cond.methodLink R_Mo 305 y_Mo_isIn ∈ nz_gd := nz_gm (List.mem_of_getElem? (i := 1418) (by decide +kernel)) rfl
theorem k_1327 : Cond.static y_Mo_isIn ∈ nz_gd := nz_gm (List.mem_of_getElem? (i := 1419) (by decide +kernel)) rfl
theorem k_1328 : Cond.code y_Mo_isIn b_Mo_isIn 3 (some .boolean) ∈ nz_gd := nz_gm (List.mem_of_getElem? (i := 1420) (by decide +kernel)) rfl
theorem k_1344 : Cond.constant R_Mo 321 (100000) ∈ nz_gd := nz_gm (List.mem_of_getElem? (i := 1436) (by decide +kernel)) rfl
theorem k_1361 : Cond.methodLink R_Mo 339 y_Mo_isWordNo ∈ nz_gd := nz_gm (List.mem_of_getElem? (i := 1453) (by decide +kernel)) rfl
theorem k_1363 : Cond.instanceMethod y_Mo_isWordNo ∈ nz_gd := nz_gm (List.mem_of_getElem? (i := 1455) (by decide +kernel)) rfl
theorem k_1364 : Cond.code y_Mo_isWordNo b_Mo_isWordNo 2 (some .boolean) ∈ nz_gd := nz_gm (List.mem_of_getElem? (i := 1456) (by decide +kernel)) rfl
theorem k_1389 : Cond.methodLink R_Mo 370 y_Mo_speak ∈ nz_gd := nz_gm (List.mem_of_getElem? (i := 1481) (by decide +kernel)) rfl
theorem k_1391 : Cond.instanceMethod y_Mo_speak ∈ nz_gd := nz_gm (List.mem_of_getElem? (i := 1483) (by decide +kernel)) rfl
theorem k_1392 : Cond.code y_Mo_speak b_Mo_speak 5 (some .boolean) ∈ nz_gd := nz_gm (List.mem_of_getElem? (i := 1484) (by decide +kernel)) rfl
theorem k_1421 : Cond.constant R_Mo 377 (33554432) ∈ nz_gd := nz_gm (List.mem_of_getElem? (i := 1513) (by decide +kernel)) rfl
theorem k_1426 : Cond.methodLink R_Mo 388 y_Mo_isMeaning ∈ nz_gd := nz_gm (List.mem_of_getElem? (i := 1518) (by decide +kernel)) rfl
theorem k_1428 : Cond.instanceMethod y_Mo_isMeaning ∈ nz_gd := nz_gm (List.mem_of_getElem? (i := 1520) (by decide +kernel)) rfl
theorem k_1429 : Cond.code y_Mo_isMeaning b_Mo_isMeaning 2 (some .boolean) ∈ nz_gd := nz_gm (List.mem_of_getElem? (i := 1521) (by decide +kernel)) rfl
theorem k_1462 : Cond.methodLink R_Mo 402 y_Mo_isPlace ∈ nz_gd := nz_gm (List.mem_of_getElem? (i := 1554) (by decide +kernel)) rfl
theorem k_1464 : Cond.instanceMethod y_Mo_isPlace ∈ nz_gd := nz_gm (List.mem_of_getElem? (i := 1556) (by decide +kernel)) rfl
theorem k_1465 : Cond.code y_Mo_isPlace b_Mo_isPlace 2 (some .boolean) ∈ nz_gd := nz_gm (List.mem_of_getElem? (i := 1557) (by decide +kernel)) rfl
theorem k_1494 : Cond.instanceMethod y_Mo_tell ∈ nz_gd := nz_gm (List.mem_of_getElem? (i := 1586) (by decide +kernel)) rfl
theorem k_1495 : Cond.selects R_Mo y_Mo_tell y_Mo_tell ∈ nz_gd := nz_gm (List.mem_of_getElem? (i := 1587) (by decide +kernel)) rfl
theorem k_1496 : Cond.code y_Mo_tell b_Mo_tell 6 (some .int) ∈ nz_gd := nz_gm (List.mem_of_getElem? (i := 1588) (by decide +kernel)) rfl
theorem k_1513 : Cond.methodLink R_Mo 423 y_Mo_tell ∈ nz_gd := nz_gm (List.mem_of_getElem? (i := 1605) (by decide +kernel)) rfl
theorem k_1534 : Cond.constantLong R_Mo 429 (-1) ∈ nz_gd := nz_gm (List.mem_of_getElem? (i := 1626) (by decide +kernel)) rfl
theorem s_0 : Cond.selects R_NF y_NF_putBytes y_NF_putBytes ∈ nz_gd := nz_gm (List.mem_of_getElem? (i := 0) (by decide +kernel)) rfl
theorem s_22 : Cond.selects R_NF y_NF_isPerson y_NF_isPerson ∈ nz_gd := nz_gm (List.mem_of_getElem? (i := 22) (by decide +kernel)) rfl
theorem s_25 : Cond.selects R_NF y_NF_isWord y_NF_isWord ∈ nz_gd := nz_gm (List.mem_of_getElem? (i := 25) (by decide +kernel)) rfl
theorem s_26 : Cond.selects R_NF y_NF_canSpeak y_NF_canSpeak ∈ nz_gd := nz_gm (List.mem_of_getElem? (i := 26) (by decide +kernel)) rfl
theorem s_30 : Cond.selects R_NF y_NF_isMeaning y_NF_isMeaning ∈ nz_gd := nz_gm (List.mem_of_getElem? (i := 30) (by decide +kernel)) rfl
theorem s_32 : Cond.selects R_NF y_NF_isPlace y_NF_isPlace ∈ nz_gd := nz_gm (List.mem_of_getElem? (i := 32) (by decide +kernel)) rfl
theorem s_61 : Cond.selects R_Mo y_Mo_isPerson y_Mo_isPerson ∈ nz_gd := nz_gm (List.mem_of_getElem? (i := 61) (by decide +kernel)) rfl
theorem s_65 : Cond.selects R_Mo y_Mo_isWordNo y_Mo_isWordNo ∈ nz_gd := nz_gm (List.mem_of_getElem? (i := 65) (by decide +kernel)) rfl
theorem s_69 : Cond.selects R_Mo y_Mo_speak y_Mo_speak ∈ nz_gd := nz_gm (List.mem_of_getElem? (i := 69) (by decide +kernel)) rfl
theorem s_76 : Cond.selects R_Mo y_Mo_isMeaning y_Mo_isMeaning ∈ nz_gd := nz_gm (List.mem_of_getElem? (i := 76) (by decide +kernel)) rfl
theorem s_82 : Cond.selects R_Mo y_Mo_isPlace y_Mo_isPlace ∈ nz_gd := nz_gm (List.mem_of_getElem? (i := 82) (by decide +kernel)) rfl
theorem i_Chances : ∀ w ∈ u_ws R_Chances F_Chances 5, w ∈ nz_gd := by decide +kernel
theorem i_Deaths : ∀ w ∈ u_ws R_Deaths F_Deaths 6, w ∈ nz_gd := by decide +kernel
theorem i_Falls : ∀ w ∈ u_ws R_Falls F_Falls 7, w ∈ nz_gd := by decide +kernel
theorem i_Land : ∀ w ∈ u_ws R_Land F_Land 5, w ∈ nz_gd := by decide +kernel
theorem i_Meanings : ∀ w ∈ u_ws R_Meanings F_Meanings 6, w ∈ nz_gd := by decide +kernel
theorem i_Persons : ∀ w ∈ u_ws R_Persons F_Persons 11, w ∈ nz_gd := by decide +kernel
theorem i_Places : ∀ w ∈ u_ws R_Places F_Places 8, w ∈ nz_gd := by decide +kernel
theorem i_Reader : ∀ w ∈ u_ws R_Reader F_Reader 5, w ∈ nz_gd := by decide +kernel
theorem i_Scanner : ∀ w ∈ u_ws R_Scanner F_Scanner 9, w ∈ nz_gd := by decide +kernel
theorem i_Speech : ∀ w ∈ u_ws R_Speech F_Speech 5, w ∈ nz_gd := by decide +kernel
theorem i_Words : ∀ w ∈ u_ws R_Words F_Words 3, w ∈ nz_gd := by decide +kernel
theorem i_NF : ∀ w ∈ u_ws R_NF F_NF 11, w ∈ nz_gd := by decide +kernel
theorem i_Mo : ∀ w ∈ u_ws R_Mo F_Mo 55, w ∈ nz_gd := by decide +kernel
theorem g_NF_80 : nz_wV R_NF 80 y_NF_putBytes b_NF_putBytes 3 none 1 := ⟨k_498, k_500, s_0, k_1, k_501, by decide +kernel, by decide +kernel, by decide +kernel⟩
theorem g_NF_104 : nz_wV R_NF 104 y_NF_isPerson b_NF_isPerson 2 (some .boolean) 1 := ⟨k_694, k_696, s_22, k_1, k_697, by decide +kernel, by decide +kernel, by decide +kernel⟩
theorem g_NF_124 : nz_wV R_NF 124 y_Deaths_takeBack b_Deaths_takeBack 2 (some .boolean) 1 := ⟨k_709, k_710, k_711, k_14, k_712, by decide +kernel, by decide +kernel, by decide +kernel⟩
theorem g_NF_127 : nz_wV R_NF 127 y_Deaths_goOn b_Deaths_goOn 2 (some .int) 1 := ⟨k_717, k_718, k_719, k_14, k_720, by decide +kernel, by decide +kernel, by decide +kernel⟩
theorem g_NF_138 : nz_wV R_NF 138 y_NF_isWord b_NF_isWord 2 (some .boolean) 1 := ⟨k_760, k_762, s_25, k_1, k_763, by decide +kernel, by decide +kernel, by decide +kernel⟩
theorem g_NF_161 : nz_wV R_NF 161 y_NF_canSpeak b_NF_canSpeak 5 (some .boolean) 4 := ⟨k_774, k_776, s_26, k_1, k_777, by decide +kernel, by decide +kernel, by decide +kernel⟩
theorem g_NF_176 : nz_wV R_NF 176 y_NF_isMeaning b_NF_isMeaning 2 (some .boolean) 1 := ⟨k_809, k_811, s_30, k_1, k_812, by decide +kernel, by decide +kernel, by decide +kernel⟩
theorem g_NF_190 : nz_wV R_NF 190 y_NF_isPlace b_NF_isPlace 2 (some .boolean) 1 := ⟨k_867, k_869, s_32, k_1, k_870, by decide +kernel, by decide +kernel, by decide +kernel⟩
theorem g_Mo_305 : nz_wS R_Mo 305 y_Mo_isIn b_Mo_isIn 3 (some .boolean) 3 := ⟨k_1326, k_1327, k_17, k_1328, by decide +kernel, by decide +kernel, by decide +kernel⟩
theorem g_Mo_309 : nz_wV R_Mo 309 y_Mo_isPerson b_Mo_isPerson 2 (some .boolean) 1 := ⟨k_1322, k_1324, s_61, k_17, k_1325, by decide +kernel, by decide +kernel, by decide +kernel⟩
theorem g_Mo_339 : nz_wV R_Mo 339 y_Mo_isWordNo b_Mo_isWordNo 2 (some .boolean) 1 := ⟨k_1361, k_1363, s_65, k_17, k_1364, by decide +kernel, by decide +kernel, by decide +kernel⟩
theorem g_Mo_370 : nz_wV R_Mo 370 y_Mo_speak b_Mo_speak 5 (some .boolean) 4 := ⟨k_1389, k_1391, s_69, k_17, k_1392, by decide +kernel, by decide +kernel, by decide +kernel⟩
theorem g_Mo_388 : nz_wV R_Mo 388 y_Mo_isMeaning b_Mo_isMeaning 2 (some .boolean) 1 := ⟨k_1426, k_1428, s_76, k_17, k_1429, by decide +kernel, by decide +kernel, by decide +kernel⟩
theorem g_Mo_402 : nz_wV R_Mo 402 y_Mo_isPlace b_Mo_isPlace 2 (some .boolean) 1 := ⟨k_1462, k_1464, s_82, k_17, k_1465, by decide +kernel, by decide +kernel, by decide +kernel⟩
theorem g_Mo_423 : nz_wV R_Mo 423 y_Mo_tell b_Mo_tell 6 (some .int) 5 := ⟨k_1513, k_1494, k_1495, k_17, k_1496, by decide +kernel, by decide +kernel, by decide +kernel⟩
end
section
theorem d_NF_about_0 : decode b_NF_about 0 = .ok (.iload_n 1, 1) := by decide +kernel
theorem d_NF_about_1 : decode b_NF_about 1 = .ok (.tableswitch 138 0 8 #[51, 62, 73, 84, 95, 106, 117, 125, 133], 51) := by decide +kernel
theorem d_NF_about_52 : decode b_NF_about 52 = .ok (.aload_n 0, 1) := by decide +kernel
theorem d_NF_about_53 : decode b_NF_about 53 = .ok (.getfield 21, 3) := by decide +kernel
theorem d_NF_about_56 : decode b_NF_about 56 = .ok (.getfield 193, 3) := by decide +kernel
theorem d_NF_about_59 : decode b_NF_about 59 = .ok (.getfield 282, 3) := by decide +kernel
theorem d_NF_about_62 : decode b_NF_about 62 = .ok (.ireturn, 1) := by decide +kernel
theorem d_NF_about_63 : decode b_NF_about 63 = .ok (.aload_n 0, 1) := by decide +kernel
theorem d_NF_about_64 : decode b_NF_about 64 = .ok (.getfield 21, 3) := by decide +kernel
theorem d_NF_about_67 : decode b_NF_about 67 = .ok (.getfield 206, 3) := by decide +kernel
theorem d_NF_about_70 : decode b_NF_about 70 = .ok (.getfield 210, 3) := by decide +kernel
theorem d_NF_about_73 : decode b_NF_about 73 = .ok (.ireturn, 1) := by decide +kernel
theorem d_NF_about_74 : decode b_NF_about 74 = .ok (.aload_n 0, 1) := by decide +kernel
theorem d_NF_about_75 : decode b_NF_about 75 = .ok (.getfield 21, 3) := by decide +kernel
theorem d_NF_about_78 : decode b_NF_about 78 = .ok (.getfield 141, 3) := by decide +kernel
theorem d_NF_about_81 : decode b_NF_about 81 = .ok (.getfield 241, 3) := by decide +kernel
theorem d_NF_about_84 : decode b_NF_about 84 = .ok (.ireturn, 1) := by decide +kernel
theorem d_NF_about_85 : decode b_NF_about 85 = .ok (.aload_n 0, 1) := by decide +kernel
theorem d_NF_about_86 : decode b_NF_about 86 = .ok (.getfield 21, 3) := by decide +kernel
theorem d_NF_about_89 : decode b_NF_about 89 = .ok (.getfield 206, 3) := by decide +kernel
theorem d_NF_about_92 : decode b_NF_about 92 = .ok (.getfield 283, 3) := by decide +kernel
theorem d_NF_about_95 : decode b_NF_about 95 = .ok (.ireturn, 1) := by decide +kernel
theorem d_NF_about_96 : decode b_NF_about 96 = .ok (.aload_n 0, 1) := by decide +kernel
theorem d_NF_about_97 : decode b_NF_about 97 = .ok (.getfield 21, 3) := by decide +kernel
theorem d_NF_about_100 : decode b_NF_about 100 = .ok (.getfield 111, 3) := by decide +kernel
theorem d_NF_about_103 : decode b_NF_about 103 = .ok (.getfield 231, 3) := by decide +kernel
theorem d_NF_about_106 : decode b_NF_about 106 = .ok (.ireturn, 1) := by decide +kernel
theorem d_NF_about_107 : decode b_NF_about 107 = .ok (.aload_n 0, 1) := by decide +kernel
theorem d_NF_about_108 : decode b_NF_about 108 = .ok (.getfield 21, 3) := by decide +kernel
theorem d_NF_about_111 : decode b_NF_about 111 = .ok (.getfield 111, 3) := by decide +kernel
theorem d_NF_about_114 : decode b_NF_about 114 = .ok (.getfield 286, 3) := by decide +kernel
theorem d_NF_about_117 : decode b_NF_about 117 = .ok (.ireturn, 1) := by decide +kernel
theorem d_NF_about_118 : decode b_NF_about 118 = .ok (.aload_n 0, 1) := by decide +kernel
theorem d_NF_about_119 : decode b_NF_about 119 = .ok (.getfield 45, 3) := by decide +kernel
theorem d_NF_about_122 : decode b_NF_about 122 = .ok (.getfield 289, 3) := by decide +kernel
theorem d_NF_about_125 : decode b_NF_about 125 = .ok (.ireturn, 1) := by decide +kernel
theorem d_NF_about_126 : decode b_NF_about 126 = .ok (.aload_n 0, 1) := by decide +kernel
theorem d_NF_about_127 : decode b_NF_about 127 = .ok (.getfield 45, 3) := by decide +kernel
theorem d_NF_about_130 : decode b_NF_about 130 = .ok (.getfield 290, 3) := by decide +kernel
theorem d_NF_about_133 : decode b_NF_about 133 = .ok (.ireturn, 1) := by decide +kernel
theorem d_NF_about_134 : decode b_NF_about 134 = .ok (.aload_n 0, 1) := by decide +kernel
theorem d_NF_about_135 : decode b_NF_about 135 = .ok (.getfield 76, 3) := by decide +kernel
theorem d_NF_about_138 : decode b_NF_about 138 = .ok (.ireturn, 1) := by decide +kernel
theorem d_NF_about_139 : decode b_NF_about 139 = .ok (.iconst (-1), 1) := by decide +kernel
theorem d_NF_about_140 : decode b_NF_about 140 = .ok (.ireturn, 1) := by decide +kernel
theorem d_NF_alive_0 : decode b_NF_alive 0 = .ok (.aload_n 0, 1) := by decide +kernel
theorem d_NF_alive_1 : decode b_NF_alive 1 = .ok (.iload_n 1, 1) := by decide +kernel
theorem d_NF_alive_2 : decode b_NF_alive 2 = .ok (.invokevirtual 104, 3) := by decide +kernel
theorem d_NF_alive_5 : decode b_NF_alive 5 = .ok (.ifCond .eq 10, 3) := by decide +kernel
theorem d_NF_alive_15 : decode b_NF_alive 15 = .ok (.iconst (-1), 1) := by decide +kernel
theorem d_NF_alive_16 : decode b_NF_alive 16 = .ok (.ireturn, 1) := by decide +kernel
theorem d_NF_apart_0 : decode b_NF_apart 0 = .ok (.aload_n 0, 1) := by decide +kernel
theorem d_NF_apart_1 : decode b_NF_apart 1 = .ok (.iload_n 1, 1) := by decide +kernel
theorem d_NF_apart_2 : decode b_NF_apart 2 = .ok (.invokevirtual 138, 3) := by decide +kernel
theorem d_NF_apart_5 : decode b_NF_apart 5 = .ok (.ifCond .eq 11, 3) := by decide +kernel
theorem d_NF_apart_16 : decode b_NF_apart 16 = .ok (.iconst (-1), 1) := by decide +kernel
theorem d_NF_apart_17 : decode b_NF_apart 17 = .ok (.ireturn, 1) := by decide +kernel
theorem d_NF_canSpeak_0 : decode b_NF_canSpeak 0 = .ok (.aload_n 0, 1) := by decide +kernel
theorem d_NF_canSpeak_1 : decode b_NF_canSpeak 1 = .ok (.iload_n 1, 1) := by decide +kernel
theorem d_NF_canSpeak_2 : decode b_NF_canSpeak 2 = .ok (.invokevirtual 104, 3) := by decide +kernel
theorem d_NF_canSpeak_5 : decode b_NF_canSpeak 5 = .ok (.ifCond .eq 23, 3) := by decide +kernel
theorem d_NF_canSpeak_28 : decode b_NF_canSpeak 28 = .ok (.iconst 0, 1) := by decide +kernel
theorem d_NF_canSpeak_29 : decode b_NF_canSpeak 29 = .ok (.ireturn, 1) := by decide +kernel
theorem d_NF_changes_0 : decode b_NF_changes 0 = .ok (.aload_n 0, 1) := by decide +kernel
theorem d_NF_changes_1 : decode b_NF_changes 1 = .ok (.iload_n 1, 1) := by decide +kernel
theorem d_NF_changes_2 : decode b_NF_changes 2 = .ok (.invokevirtual 190, 3) := by decide +kernel
theorem d_NF_changes_5 : decode b_NF_changes 5 = .ok (.ifCond .eq 20, 3) := by decide +kernel
theorem d_NF_changes_25 : decode b_NF_changes 25 = .ok (.iconst (-1), 1) := by decide +kernel
theorem d_NF_changes_26 : decode b_NF_changes 26 = .ok (.ireturn, 1) := by decide +kernel
theorem d_NF_child_0 : decode b_NF_child 0 = .ok (.aload_n 0, 1) := by decide +kernel
theorem d_NF_child_1 : decode b_NF_child 1 = .ok (.iload_n 1, 1) := by decide +kernel
theorem d_NF_child_2 : decode b_NF_child 2 = .ok (.invokevirtual 190, 3) := by decide +kernel
theorem d_NF_child_5 : decode b_NF_child 5 = .ok (.ifCond .eq 10, 3) := by decide +kernel
theorem d_NF_child_15 : decode b_NF_child 15 = .ok (.iconst (-1), 1) := by decide +kernel
theorem d_NF_child_16 : decode b_NF_child 16 = .ok (.ireturn, 1) := by decide +kernel
theorem d_NF_cost_0 : decode b_NF_cost 0 = .ok (.aload_n 0, 1) := by decide +kernel
theorem d_NF_cost_1 : decode b_NF_cost 1 = .ok (.iload_n 3, 1) := by decide +kernel
theorem d_NF_cost_2 : decode b_NF_cost 2 = .ok (.invokevirtual 176, 3) := by decide +kernel
theorem d_NF_cost_5 : decode b_NF_cost 5 = .ok (.ifCond .eq 16, 3) := by decide +kernel
theorem d_NF_cost_21 : decode b_NF_cost 21 = .ok (.iconst (-1), 1) := by decide +kernel
theorem d_NF_cost_22 : decode b_NF_cost 22 = .ok (.ireturn, 1) := by decide +kernel
theorem d_NF_die_0 : decode b_NF_die 0 = .ok (.aload_n 0, 1) := by decide +kernel
theorem d_NF_die_1 : decode b_NF_die 1 = .ok (.iload_n 1, 1) := by decide +kernel
theorem d_NF_die_2 : decode b_NF_die 2 = .ok (.invokevirtual 104, 3) := by decide +kernel
theorem d_NF_die_5 : decode b_NF_die 5 = .ok (.ifCond .eq 26, 3) := by decide +kernel
theorem d_NF_die_31 : decode b_NF_die 31 = .ok (.iconst (-1), 1) := by decide +kernel
theorem d_NF_die_32 : decode b_NF_die 32 = .ok (.ireturn, 1) := by decide +kernel
theorem d_NF_end_0 : decode b_NF_end 0 = .ok (.iload_n 1, 1) := by decide +kernel
theorem d_NF_end_1 : decode b_NF_end 1 = .ok (.ifCond .lt 11, 3) := by decide +kernel
theorem d_NF_end_4 : decode b_NF_end 4 = .ok (.iload_n 1, 1) := by decide +kernel
theorem d_NF_end_5 : decode b_NF_end 5 = .ok (.aload_n 0, 1) := by decide +kernel
theorem d_NF_end_6 : decode b_NF_end 6 = .ok (.getfield 76, 3) := by decide +kernel
theorem d_NF_end_9 : decode b_NF_end 9 = .ok (.if_icmp .le 5, 3) := by decide +kernel
theorem d_NF_end_12 : decode b_NF_end 12 = .ok (.iconst (-1), 1) := by decide +kernel
theorem d_NF_end_13 : decode b_NF_end 13 = .ok (.ireturn, 1) := by decide +kernel
theorem d_NF_end_14 : decode b_NF_end 14 = .ok (.aload_n 0, 1) := by decide +kernel
theorem d_NF_end_15 : decode b_NF_end 15 = .ok (.iload_n 1, 1) := by decide +kernel
theorem d_NF_end_16 : decode b_NF_end 16 = .ok (.putfield 76, 3) := by decide +kernel
theorem d_NF_end_19 : decode b_NF_end 19 = .ok (.iload_n 1, 1) := by decide +kernel
theorem d_NF_end_20 : decode b_NF_end 20 = .ok (.ireturn, 1) := by decide +kernel
theorem d_NF_fault_0 : decode b_NF_fault 0 = .ok (.iload_n 1, 1) := by decide +kernel
theorem d_NF_fault_1 : decode b_NF_fault 1 = .ok (.lookupswitch 43 #[(0, 27), (1, 35)], 27) := by decide +kernel
theorem d_NF_fault_28 : decode b_NF_fault 28 = .ok (.aload_n 0, 1) := by decide +kernel
theorem d_NF_fault_29 : decode b_NF_fault 29 = .ok (.getfield 38, 3) := by decide +kernel
theorem d_NF_fault_32 : decode b_NF_fault 32 = .ok (.getfield 92, 3) := by decide +kernel
theorem d_NF_fault_35 : decode b_NF_fault 35 = .ok (.ireturn, 1) := by decide +kernel
theorem d_NF_fault_36 : decode b_NF_fault 36 = .ok (.aload_n 0, 1) := by decide +kernel
theorem d_NF_fault_37 : decode b_NF_fault 37 = .ok (.getfield 38, 3) := by decide +kernel
theorem d_NF_fault_40 : decode b_NF_fault 40 = .ok (.getfield 101, 3) := by decide +kernel
theorem d_NF_fault_43 : decode b_NF_fault 43 = .ok (.ireturn, 1) := by decide +kernel
theorem d_NF_fault_44 : decode b_NF_fault 44 = .ok (.iconst (-1), 1) := by decide +kernel
theorem d_NF_fault_45 : decode b_NF_fault 45 = .ok (.ireturn, 1) := by decide +kernel
theorem d_NF_feed_0 : decode b_NF_feed 0 = .ok (.aload_n 0, 1) := by decide +kernel
theorem d_NF_feed_1 : decode b_NF_feed 1 = .ok (.getfield 76, 3) := by decide +kernel
theorem d_NF_feed_4 : decode b_NF_feed 4 = .ok (.bipush 20, 2) := by decide +kernel
theorem d_NF_feed_6 : decode b_NF_feed 6 = .ok (.iadd, 1) := by decide +kernel
theorem d_NF_feed_7 : decode b_NF_feed 7 = .ok (.sipush 1600, 3) := by decide +kernel
theorem d_NF_feed_10 : decode b_NF_feed 10 = .ok (.if_icmp .le 5, 3) := by decide +kernel
theorem d_NF_feed_15 : decode b_NF_feed 15 = .ok (.aload_n 0, 1) := by decide +kernel
theorem d_NF_feed_16 : decode b_NF_feed 16 = .ok (.iload_n 1, 1) := by decide +kernel
theorem d_NF_feed_17 : decode b_NF_feed 17 = .ok (.invokevirtual 80, 3) := by decide +kernel
theorem d_NF_feed_20 : decode b_NF_feed 20 = .ok (.aload_n 0, 1) := by decide +kernel
theorem d_NF_feed_21 : decode b_NF_feed 21 = .ok (.iload_n 2, 1) := by decide +kernel
theorem d_NF_feed_22 : decode b_NF_feed 22 = .ok (.invokevirtual 80, 3) := by decide +kernel
theorem d_NF_feed_25 : decode b_NF_feed 25 = .ok (.aload_n 0, 1) := by decide +kernel
theorem d_NF_feed_26 : decode b_NF_feed 26 = .ok (.iload_n 3, 1) := by decide +kernel
theorem d_NF_feed_27 : decode b_NF_feed 27 = .ok (.invokevirtual 80, 3) := by decide +kernel
theorem d_NF_feed_30 : decode b_NF_feed 30 = .ok (.aload_n 0, 1) := by decide +kernel
theorem d_NF_feed_31 : decode b_NF_feed 31 = .ok (.iload 4, 2) := by decide +kernel
theorem d_NF_feed_33 : decode b_NF_feed 33 = .ok (.invokevirtual 80, 3) := by decide +kernel
theorem d_NF_feed_36 : decode b_NF_feed 36 = .ok (.aload_n 0, 1) := by decide +kernel
theorem d_NF_feed_37 : decode b_NF_feed 37 = .ok (.iload 5, 2) := by decide +kernel
theorem d_NF_feed_39 : decode b_NF_feed 39 = .ok (.invokevirtual 80, 3) := by decide +kernel
theorem d_NF_feed_42 : decode b_NF_feed 42 = .ok (.aload_n 0, 1) := by decide +kernel
theorem d_NF_feed_43 : decode b_NF_feed 43 = .ok (.getfield 76, 3) := by decide +kernel
theorem d_NF_feed_46 : decode b_NF_feed 46 = .ok (.ireturn, 1) := by decide +kernel
theorem d_NF_grasp_0 : decode b_NF_grasp 0 = .ok (.aload_n 0, 1) := by decide +kernel
theorem d_NF_grasp_1 : decode b_NF_grasp 1 = .ok (.iload_n 1, 1) := by decide +kernel
theorem d_NF_grasp_2 : decode b_NF_grasp 2 = .ok (.iload_n 2, 1) := by decide +kernel
theorem d_NF_grasp_3 : decode b_NF_grasp 3 = .ok (.iload_n 3, 1) := by decide +kernel
theorem d_NF_grasp_4 : decode b_NF_grasp 4 = .ok (.iload 4, 2) := by decide +kernel
theorem d_NF_grasp_6 : decode b_NF_grasp 6 = .ok (.invokevirtual 161, 3) := by decide +kernel
theorem d_NF_grasp_9 : decode b_NF_grasp 9 = .ok (.ifCond .ne 5, 3) := by decide +kernel
theorem d_NF_grasp_12 : decode b_NF_grasp 12 = .ok (.iconst (-1), 1) := by decide +kernel
theorem d_NF_grasp_13 : decode b_NF_grasp 13 = .ok (.ireturn, 1) := by decide +kernel
theorem d_NF_hurt_0 : decode b_NF_hurt 0 = .ok (.aload_n 0, 1) := by decide +kernel
theorem d_NF_hurt_1 : decode b_NF_hurt 1 = .ok (.iload_n 1, 1) := by decide +kernel
theorem d_NF_hurt_2 : decode b_NF_hurt 2 = .ok (.invokevirtual 190, 3) := by decide +kernel
theorem d_NF_hurt_5 : decode b_NF_hurt 5 = .ok (.ifCond .eq 18, 3) := by decide +kernel
theorem d_NF_hurt_23 : decode b_NF_hurt 23 = .ok (.sipush (-1000), 3) := by decide +kernel
theorem d_NF_hurt_26 : decode b_NF_hurt 26 = .ok (.ireturn, 1) := by decide +kernel
theorem d_NF_instead_0 : decode b_NF_instead 0 = .ok (.aload_n 0, 1) := by decide +kernel
theorem d_NF_instead_1 : decode b_NF_instead 1 = .ok (.iload_n 3, 1) := by decide +kernel
theorem d_NF_instead_2 : decode b_NF_instead 2 = .ok (.invokevirtual 176, 3) := by decide +kernel
theorem d_NF_instead_5 : decode b_NF_instead 5 = .ok (.ifCond .eq 16, 3) := by decide +kernel
theorem d_NF_instead_21 : decode b_NF_instead 21 = .ok (.iconst (-1), 1) := by decide +kernel
theorem d_NF_instead_22 : decode b_NF_instead 22 = .ok (.ireturn, 1) := by decide +kernel
theorem d_NF_isMeaning_0 : decode b_NF_isMeaning 0 = .ok (.iload_n 1, 1) := by decide +kernel
theorem d_NF_isMeaning_1 : decode b_NF_isMeaning 1 = .ok (.ifCond .lt 21, 3) := by decide +kernel
theorem d_NF_isMeaning_4 : decode b_NF_isMeaning 4 = .ok (.iload_n 1, 1) := by decide +kernel
theorem d_NF_isMeaning_5 : decode b_NF_isMeaning 5 = .ok (.aload_n 0, 1) := by decide +kernel
theorem d_NF_isMeaning_6 : decode b_NF_isMeaning 6 = .ok (.getfield 21, 3) := by decide +kernel
theorem d_NF_isMeaning_9 : decode b_NF_isMeaning 9 = .ok (.getfield 206, 3) := by decide +kernel
theorem d_NF_isMeaning_12 : decode b_NF_isMeaning 12 = .ok (.getfield 210, 3) := by decide +kernel
theorem d_NF_isMeaning_15 : decode b_NF_isMeaning 15 = .ok (.if_icmp .ge 7, 3) := by decide +kernel
theorem d_NF_isMeaning_22 : decode b_NF_isMeaning 22 = .ok (.iconst 0, 1) := by decide +kernel
theorem d_NF_isMeaning_23 : decode b_NF_isMeaning 23 = .ok (.ireturn, 1) := by decide +kernel
theorem d_NF_isPerson_0 : decode b_NF_isPerson 0 = .ok (.iload_n 1, 1) := by decide +kernel
theorem d_NF_isPerson_1 : decode b_NF_isPerson 1 = .ok (.ifCond .lt 21, 3) := by decide +kernel
theorem d_NF_isPerson_4 : decode b_NF_isPerson 4 = .ok (.iload_n 1, 1) := by decide +kernel
theorem d_NF_isPerson_5 : decode b_NF_isPerson 5 = .ok (.aload_n 0, 1) := by decide +kernel
theorem d_NF_isPerson_6 : decode b_NF_isPerson 6 = .ok (.getfield 21, 3) := by decide +kernel
theorem d_NF_isPerson_9 : decode b_NF_isPerson 9 = .ok (.getfield 111, 3) := by decide +kernel
theorem d_NF_isPerson_12 : decode b_NF_isPerson 12 = .ok (.getfield 231, 3) := by decide +kernel
theorem d_NF_isPerson_15 : decode b_NF_isPerson 15 = .ok (.if_icmp .ge 7, 3) := by decide +kernel
theorem d_NF_isPerson_22 : decode b_NF_isPerson 22 = .ok (.iconst 0, 1) := by decide +kernel
theorem d_NF_isPerson_23 : decode b_NF_isPerson 23 = .ok (.ireturn, 1) := by decide +kernel
theorem d_NF_isPlace_0 : decode b_NF_isPlace 0 = .ok (.iload_n 1, 1) := by decide +kernel
theorem d_NF_isPlace_1 : decode b_NF_isPlace 1 = .ok (.ifCond .lt 21, 3) := by decide +kernel
theorem d_NF_isPlace_4 : decode b_NF_isPlace 4 = .ok (.iload_n 1, 1) := by decide +kernel
theorem d_NF_isPlace_5 : decode b_NF_isPlace 5 = .ok (.aload_n 0, 1) := by decide +kernel
theorem d_NF_isPlace_6 : decode b_NF_isPlace 6 = .ok (.getfield 21, 3) := by decide +kernel
theorem d_NF_isPlace_9 : decode b_NF_isPlace 9 = .ok (.getfield 193, 3) := by decide +kernel
theorem d_NF_isPlace_12 : decode b_NF_isPlace 12 = .ok (.getfield 282, 3) := by decide +kernel
theorem d_NF_isPlace_15 : decode b_NF_isPlace 15 = .ok (.if_icmp .ge 7, 3) := by decide +kernel
theorem d_NF_isPlace_22 : decode b_NF_isPlace 22 = .ok (.iconst 0, 1) := by decide +kernel
theorem d_NF_isPlace_23 : decode b_NF_isPlace 23 = .ok (.ireturn, 1) := by decide +kernel
theorem d_NF_isWord_0 : decode b_NF_isWord 0 = .ok (.iload_n 1, 1) := by decide +kernel
theorem d_NF_isWord_1 : decode b_NF_isWord 1 = .ok (.ifCond .lt 21, 3) := by decide +kernel
theorem d_NF_isWord_4 : decode b_NF_isWord 4 = .ok (.iload_n 1, 1) := by decide +kernel
theorem d_NF_isWord_5 : decode b_NF_isWord 5 = .ok (.aload_n 0, 1) := by decide +kernel
theorem d_NF_isWord_6 : decode b_NF_isWord 6 = .ok (.getfield 21, 3) := by decide +kernel
theorem d_NF_isWord_9 : decode b_NF_isWord 9 = .ok (.getfield 141, 3) := by decide +kernel
theorem d_NF_isWord_12 : decode b_NF_isWord 12 = .ok (.getfield 241, 3) := by decide +kernel
theorem d_NF_isWord_15 : decode b_NF_isWord 15 = .ok (.if_icmp .ge 7, 3) := by decide +kernel
theorem d_NF_isWord_22 : decode b_NF_isWord 22 = .ok (.iconst 0, 1) := by decide +kernel
theorem d_NF_isWord_23 : decode b_NF_isWord 23 = .ok (.ireturn, 1) := by decide +kernel
theorem d_NF_judge_0 : decode b_NF_judge 0 = .ok (.iload_n 3, 1) := by decide +kernel
theorem d_NF_judge_1 : decode b_NF_judge 1 = .ok (.iconst 1, 1) := by decide +kernel
theorem d_NF_judge_2 : decode b_NF_judge 2 = .ok (.if_icmp .lt 22, 3) := by decide +kernel
theorem d_NF_judge_5 : decode b_NF_judge 5 = .ok (.iload_n 3, 1) := by decide +kernel
theorem d_NF_judge_6 : decode b_NF_judge 6 = .ok (.ldc 172, 2) := by decide +kernel
theorem d_NF_judge_8 : decode b_NF_judge 8 = .ok (.if_icmp .gt 16, 3) := by decide +kernel
theorem d_NF_judge_11 : decode b_NF_judge 11 = .ok (.aload_n 0, 1) := by decide +kernel
theorem d_NF_judge_12 : decode b_NF_judge 12 = .ok (.iload_n 1, 1) := by decide +kernel
theorem d_NF_judge_13 : decode b_NF_judge 13 = .ok (.iload_n 2, 1) := by decide +kernel
theorem d_NF_judge_14 : decode b_NF_judge 14 = .ok (.iload 4, 2) := by decide +kernel
theorem d_NF_judge_16 : decode b_NF_judge 16 = .ok (.iload 5, 2) := by decide +kernel
theorem d_NF_judge_18 : decode b_NF_judge 18 = .ok (.invokevirtual 161, 3) := by decide +kernel
theorem d_NF_judge_21 : decode b_NF_judge 21 = .ok (.ifCond .ne 5, 3) := by decide +kernel
theorem d_NF_judge_24 : decode b_NF_judge 24 = .ok (.iconst (-1), 1) := by decide +kernel
theorem d_NF_judge_25 : decode b_NF_judge 25 = .ok (.ireturn, 1) := by decide +kernel
theorem d_NF_later_0 : decode b_NF_later 0 = .ok (.aload_n 0, 1) := by decide +kernel
theorem d_NF_later_1 : decode b_NF_later 1 = .ok (.getfield 45, 3) := by decide +kernel
theorem d_NF_later_4 : decode b_NF_later 4 = .ok (.iload_n 1, 1) := by decide +kernel
theorem d_NF_later_5 : decode b_NF_later 5 = .ok (.invokevirtual 127, 3) := by decide +kernel
theorem d_NF_later_8 : decode b_NF_later 8 = .ok (.ireturn, 1) := by decide +kernel
theorem d_NF_may_0 : decode b_NF_may 0 = .ok (.aload_n 0, 1) := by decide +kernel
theorem d_NF_may_1 : decode b_NF_may 1 = .ok (.iload_n 3, 1) := by decide +kernel
theorem d_NF_may_2 : decode b_NF_may 2 = .ok (.invokevirtual 138, 3) := by decide +kernel
theorem d_NF_may_5 : decode b_NF_may 5 = .ok (.ifCond .eq 16, 3) := by decide +kernel
theorem d_NF_may_21 : decode b_NF_may 21 = .ok (.iconst (-1), 1) := by decide +kernel
theorem d_NF_may_22 : decode b_NF_may 22 = .ok (.ireturn, 1) := by decide +kernel
theorem d_NF_mean_0 : decode b_NF_mean 0 = .ok (.aload_n 0, 1) := by decide +kernel
theorem d_NF_mean_1 : decode b_NF_mean 1 = .ok (.iload_n 1, 1) := by decide +kernel
theorem d_NF_mean_2 : decode b_NF_mean 2 = .ok (.invokevirtual 190, 3) := by decide +kernel
theorem d_NF_mean_5 : decode b_NF_mean 5 = .ok (.ifCond .eq 24, 3) := by decide +kernel
theorem d_NF_mean_29 : decode b_NF_mean 29 = .ok (.iconst 0, 1) := by decide +kernel
theorem d_NF_mean_30 : decode b_NF_mean 30 = .ok (.istore 6, 2) := by decide +kernel
theorem d_NF_mean_32 : decode b_NF_mean 32 = .ok (.iload 6, 2) := by decide +kernel
theorem d_NF_mean_34 : decode b_NF_mean 34 = .ok (.ifCond .eq 14, 3) := by decide +kernel
theorem d_NF_mean_48 : decode b_NF_mean 48 = .ok (.ldc2_w 242, 3) := by decide +kernel
theorem d_NF_mean_51 : decode b_NF_mean 51 = .ok (.lreturn, 1) := by decide +kernel
theorem d_NF_near_0 : decode b_NF_near 0 = .ok (.aload_n 0, 1) := by decide +kernel
theorem d_NF_near_1 : decode b_NF_near 1 = .ok (.iload_n 1, 1) := by decide +kernel
theorem d_NF_near_2 : decode b_NF_near 2 = .ok (.invokevirtual 104, 3) := by decide +kernel
theorem d_NF_near_5 : decode b_NF_near 5 = .ok (.ifCond .eq 11, 3) := by decide +kernel
theorem d_NF_near_16 : decode b_NF_near 16 = .ok (.iconst (-1), 1) := by decide +kernel
theorem d_NF_near_17 : decode b_NF_near 17 = .ok (.ireturn, 1) := by decide +kernel
theorem d_NF_old_0 : decode b_NF_old 0 = .ok (.aload_n 0, 1) := by decide +kernel
theorem d_NF_old_1 : decode b_NF_old 1 = .ok (.iload_n 1, 1) := by decide +kernel
theorem d_NF_old_2 : decode b_NF_old 2 = .ok (.invokevirtual 176, 3) := by decide +kernel
theorem d_NF_old_5 : decode b_NF_old 5 = .ok (.ifCond .eq 12, 3) := by decide +kernel
theorem d_NF_old_17 : decode b_NF_old 17 = .ok (.iconst (-1), 1) := by decide +kernel
theorem d_NF_old_18 : decode b_NF_old 18 = .ok (.ireturn, 1) := by decide +kernel
theorem d_NF_parted_0 : decode b_NF_parted 0 = .ok (.aload_n 0, 1) := by decide +kernel
theorem d_NF_parted_1 : decode b_NF_parted 1 = .ok (.iload_n 1, 1) := by decide +kernel
theorem d_NF_parted_2 : decode b_NF_parted 2 = .ok (.invokevirtual 190, 3) := by decide +kernel
theorem d_NF_parted_5 : decode b_NF_parted 5 = .ok (.ifCond .eq 18, 3) := by decide +kernel
theorem d_NF_parted_23 : decode b_NF_parted 23 = .ok (.iconst (-1), 1) := by decide +kernel
theorem d_NF_parted_24 : decode b_NF_parted 24 = .ok (.ireturn, 1) := by decide +kernel
theorem d_NF_putBytes_0 : decode b_NF_putBytes 0 = .ok (.bipush 24, 2) := by decide +kernel
theorem d_NF_putBytes_2 : decode b_NF_putBytes 2 = .ok (.istore_n 2, 1) := by decide +kernel
theorem d_NF_putBytes_3 : decode b_NF_putBytes 3 = .ok (.iload_n 2, 1) := by decide +kernel
theorem d_NF_putBytes_4 : decode b_NF_putBytes 4 = .ok (.ifCond .lt 44, 3) := by decide +kernel
theorem d_NF_putBytes_7 : decode b_NF_putBytes 7 = .ok (.aload_n 0, 1) := by decide +kernel
theorem d_NF_putBytes_8 : decode b_NF_putBytes 8 = .ok (.getfield 76, 3) := by decide +kernel
theorem d_NF_putBytes_11 : decode b_NF_putBytes 11 = .ok (.aload_n 0, 1) := by decide +kernel
theorem d_NF_putBytes_12 : decode b_NF_putBytes 12 = .ok (.getfield 17, 3) := by decide +kernel
theorem d_NF_putBytes_15 : decode b_NF_putBytes 15 = .ok (.arraylength, 1) := by decide +kernel
theorem d_NF_putBytes_16 : decode b_NF_putBytes 16 = .ok (.if_icmp .ge 26, 3) := by decide +kernel
theorem d_NF_putBytes_19 : decode b_NF_putBytes 19 = .ok (.aload_n 0, 1) := by decide +kernel
theorem d_NF_putBytes_20 : decode b_NF_putBytes 20 = .ok (.getfield 17, 3) := by decide +kernel
theorem d_NF_putBytes_23 : decode b_NF_putBytes 23 = .ok (.aload_n 0, 1) := by decide +kernel
theorem d_NF_putBytes_24 : decode b_NF_putBytes 24 = .ok (.getfield 76, 3) := by decide +kernel
theorem d_NF_putBytes_27 : decode b_NF_putBytes 27 = .ok (.iload_n 1, 1) := by decide +kernel
theorem d_NF_putBytes_28 : decode b_NF_putBytes 28 = .ok (.iload_n 2, 1) := by decide +kernel
theorem d_NF_putBytes_29 : decode b_NF_putBytes 29 = .ok (.ishr, 1) := by decide +kernel
theorem d_NF_putBytes_30 : decode b_NF_putBytes 30 = .ok (.i2b, 1) := by decide +kernel
theorem d_NF_putBytes_31 : decode b_NF_putBytes 31 = .ok (.bastore, 1) := by decide +kernel
theorem d_NF_putBytes_32 : decode b_NF_putBytes 32 = .ok (.aload_n 0, 1) := by decide +kernel
theorem d_NF_putBytes_33 : decode b_NF_putBytes 33 = .ok (.dup, 1) := by decide +kernel
theorem d_NF_putBytes_34 : decode b_NF_putBytes 34 = .ok (.getfield 76, 3) := by decide +kernel
theorem d_NF_putBytes_37 : decode b_NF_putBytes 37 = .ok (.iconst 1, 1) := by decide +kernel
theorem d_NF_putBytes_38 : decode b_NF_putBytes 38 = .ok (.iadd, 1) := by decide +kernel
theorem d_NF_putBytes_39 : decode b_NF_putBytes 39 = .ok (.putfield 76, 3) := by decide +kernel
theorem d_NF_putBytes_42 : decode b_NF_putBytes 42 = .ok (.iinc 2 (-8), 3) := by decide +kernel
theorem d_NF_putBytes_45 : decode b_NF_putBytes 45 = .ok (.goto (-42), 3) := by decide +kernel
theorem d_NF_putBytes_48 : decode b_NF_putBytes 48 = .ok (.return_, 1) := by decide +kernel
theorem d_NF_renewed_0 : decode b_NF_renewed 0 = .ok (.aload_n 0, 1) := by decide +kernel
theorem d_NF_renewed_1 : decode b_NF_renewed 1 = .ok (.iload_n 1, 1) := by decide +kernel
theorem d_NF_renewed_2 : decode b_NF_renewed 2 = .ok (.invokevirtual 190, 3) := by decide +kernel
theorem d_NF_renewed_5 : decode b_NF_renewed 5 = .ok (.ifCond .eq 11, 3) := by decide +kernel
theorem d_NF_renewed_16 : decode b_NF_renewed 16 = .ok (.iconst (-1), 1) := by decide +kernel
theorem d_NF_renewed_17 : decode b_NF_renewed 17 = .ok (.ireturn, 1) := by decide +kernel
theorem d_NF_safe_0 : decode b_NF_safe 0 = .ok (.aload_n 0, 1) := by decide +kernel
theorem d_NF_safe_1 : decode b_NF_safe 1 = .ok (.iload_n 1, 1) := by decide +kernel
theorem d_NF_safe_2 : decode b_NF_safe 2 = .ok (.invokevirtual 190, 3) := by decide +kernel
theorem d_NF_safe_5 : decode b_NF_safe 5 = .ok (.ifCond .eq 11, 3) := by decide +kernel
theorem d_NF_safe_16 : decode b_NF_safe 16 = .ok (.iconst (-1), 1) := by decide +kernel
theorem d_NF_safe_17 : decode b_NF_safe 17 = .ok (.ireturn, 1) := by decide +kernel
theorem d_NF_tell_0 : decode b_NF_tell 0 = .ok (.aload_n 0, 1) := by decide +kernel
theorem d_NF_tell_1 : decode b_NF_tell 1 = .ok (.iload_n 3, 1) := by decide +kernel
theorem d_NF_tell_2 : decode b_NF_tell 2 = .ok (.invokevirtual 176, 3) := by decide +kernel
theorem d_NF_tell_5 : decode b_NF_tell 5 = .ok (.ifCond .eq 16, 3) := by decide +kernel
theorem d_NF_tell_21 : decode b_NF_tell 21 = .ok (.iconst (-1), 1) := by decide +kernel
theorem d_NF_tell_22 : decode b_NF_tell 22 = .ok (.ireturn, 1) := by decide +kernel
theorem d_NF_today_0 : decode b_NF_today 0 = .ok (.aload_n 0, 1) := by decide +kernel
theorem d_NF_today_1 : decode b_NF_today 1 = .ok (.iload_n 1, 1) := by decide +kernel
theorem d_NF_today_2 : decode b_NF_today 2 = .ok (.invokevirtual 190, 3) := by decide +kernel
theorem d_NF_today_5 : decode b_NF_today 5 = .ok (.ifCond .eq 18, 3) := by decide +kernel
theorem d_NF_today_23 : decode b_NF_today 23 = .ok (.iconst (-1), 1) := by decide +kernel
theorem d_NF_today_24 : decode b_NF_today 24 = .ok (.ireturn, 1) := by decide +kernel
theorem d_NF_told_0 : decode b_NF_told 0 = .ok (.aload_n 0, 1) := by decide +kernel
theorem d_NF_told_1 : decode b_NF_told 1 = .ok (.iload_n 3, 1) := by decide +kernel
theorem d_NF_told_2 : decode b_NF_told 2 = .ok (.invokevirtual 176, 3) := by decide +kernel
theorem d_NF_told_5 : decode b_NF_told 5 = .ok (.ifCond .eq 16, 3) := by decide +kernel
theorem d_NF_told_21 : decode b_NF_told 21 = .ok (.iconst (-1), 1) := by decide +kernel
theorem d_NF_told_22 : decode b_NF_told 22 = .ok (.ireturn, 1) := by decide +kernel
theorem d_NF_untell_0 : decode b_NF_untell 0 = .ok (.aload_n 0, 1) := by decide +kernel
theorem d_NF_untell_1 : decode b_NF_untell 1 = .ok (.getfield 45, 3) := by decide +kernel
theorem d_NF_untell_4 : decode b_NF_untell 4 = .ok (.iload_n 1, 1) := by decide +kernel
theorem d_NF_untell_5 : decode b_NF_untell 5 = .ok (.invokevirtual 124, 3) := by decide +kernel
theorem d_NF_untell_8 : decode b_NF_untell 8 = .ok (.ireturn, 1) := by decide +kernel
theorem d_NF_wish_0 : decode b_NF_wish 0 = .ok (.aload_n 0, 1) := by decide +kernel
theorem d_NF_wish_1 : decode b_NF_wish 1 = .ok (.iload_n 1, 1) := by decide +kernel
theorem d_NF_wish_2 : decode b_NF_wish 2 = .ok (.invokevirtual 190, 3) := by decide +kernel
theorem d_NF_wish_5 : decode b_NF_wish 5 = .ok (.ifCond .eq 10, 3) := by decide +kernel
theorem d_NF_wish_15 : decode b_NF_wish 15 = .ok (.iconst (-1), 1) := by decide +kernel
theorem d_NF_wish_16 : decode b_NF_wish 16 = .ok (.ireturn, 1) := by decide +kernel
theorem d_Deaths_goOn_0 : decode b_Deaths_goOn 0 = .ok (.iload_n 1, 1) := by decide +kernel
theorem d_Deaths_goOn_1 : decode b_Deaths_goOn 1 = .ok (.ifCond .lt 21, 3) := by decide +kernel
theorem d_Deaths_goOn_4 : decode b_Deaths_goOn 4 = .ok (.iload_n 1, 1) := by decide +kernel
theorem d_Deaths_goOn_5 : decode b_Deaths_goOn 5 = .ok (.sipush 1000, 3) := by decide +kernel
theorem d_Deaths_goOn_8 : decode b_Deaths_goOn 8 = .ok (.if_icmp .gt 14, 3) := by decide +kernel
theorem d_Deaths_goOn_11 : decode b_Deaths_goOn 11 = .ok (.aload_n 0, 1) := by decide +kernel
theorem d_Deaths_goOn_12 : decode b_Deaths_goOn 12 = .ok (.getfield 28, 3) := by decide +kernel
theorem d_Deaths_goOn_15 : decode b_Deaths_goOn 15 = .ok (.iload_n 1, 1) := by decide +kernel
theorem d_Deaths_goOn_16 : decode b_Deaths_goOn 16 = .ok (.iadd, 1) := by decide +kernel
theorem d_Deaths_goOn_17 : decode b_Deaths_goOn 17 = .ok (.ldc 31, 2) := by decide +kernel
theorem d_Deaths_goOn_19 : decode b_Deaths_goOn 19 = .ok (.if_icmp .le 5, 3) := by decide +kernel
theorem d_Deaths_goOn_22 : decode b_Deaths_goOn 22 = .ok (.iconst (-1), 1) := by decide +kernel
theorem d_Deaths_goOn_23 : decode b_Deaths_goOn 23 = .ok (.ireturn, 1) := by decide +kernel
theorem d_Deaths_goOn_24 : decode b_Deaths_goOn 24 = .ok (.aload_n 0, 1) := by decide +kernel
theorem d_Deaths_goOn_25 : decode b_Deaths_goOn 25 = .ok (.dup, 1) := by decide +kernel
theorem d_Deaths_goOn_26 : decode b_Deaths_goOn 26 = .ok (.getfield 28, 3) := by decide +kernel
theorem d_Deaths_goOn_29 : decode b_Deaths_goOn 29 = .ok (.iload_n 1, 1) := by decide +kernel
theorem d_Deaths_goOn_30 : decode b_Deaths_goOn 30 = .ok (.iadd, 1) := by decide +kernel
theorem d_Deaths_goOn_31 : decode b_Deaths_goOn 31 = .ok (.putfield 28, 3) := by decide +kernel
theorem d_Deaths_goOn_34 : decode b_Deaths_goOn 34 = .ok (.aload_n 0, 1) := by decide +kernel
theorem d_Deaths_goOn_35 : decode b_Deaths_goOn 35 = .ok (.getfield 28, 3) := by decide +kernel
theorem d_Deaths_goOn_38 : decode b_Deaths_goOn 38 = .ok (.ireturn, 1) := by decide +kernel
theorem d_Deaths_takeBack_0 : decode b_Deaths_takeBack 0 = .ok (.iload_n 1, 1) := by decide +kernel
theorem d_Deaths_takeBack_1 : decode b_Deaths_takeBack 1 = .ok (.ifCond .lt 21, 3) := by decide +kernel
theorem d_Deaths_takeBack_4 : decode b_Deaths_takeBack 4 = .ok (.iload_n 1, 1) := by decide +kernel
theorem d_Deaths_takeBack_5 : decode b_Deaths_takeBack 5 = .ok (.aload_n 0, 1) := by decide +kernel
theorem d_Deaths_takeBack_6 : decode b_Deaths_takeBack 6 = .ok (.getfield 24, 3) := by decide +kernel
theorem d_Deaths_takeBack_9 : decode b_Deaths_takeBack 9 = .ok (.if_icmp .ge 13, 3) := by decide +kernel
theorem d_Deaths_takeBack_22 : decode b_Deaths_takeBack 22 = .ok (.iconst 0, 1) := by decide +kernel
theorem d_Deaths_takeBack_23 : decode b_Deaths_takeBack 23 = .ok (.ireturn, 1) := by decide +kernel
theorem d_Mo_about_0 : decode b_Mo_about 0 = .ok (.iload_n 1, 1) := by decide +kernel
theorem d_Mo_about_1 : decode b_Mo_about 1 = .ok (.tableswitch 126 0 8 #[51, 61, 71, 81, 91, 101, 111, 116, 121], 51) := by decide +kernel
theorem d_Mo_about_52 : decode b_Mo_about 52 = .ok (.aload_n 0, 1) := by decide +kernel
theorem d_Mo_about_53 : decode b_Mo_about 53 = .ok (.getfield 20, 3) := by decide +kernel
theorem d_Mo_about_56 : decode b_Mo_about 56 = .ok (.aload_n 0, 1) := by decide +kernel
theorem d_Mo_about_57 : decode b_Mo_about 57 = .ok (.getfield 240, 3) := by decide +kernel
theorem d_Mo_about_60 : decode b_Mo_about 60 = .ok (.iaload, 1) := by decide +kernel
theorem d_Mo_about_61 : decode b_Mo_about 61 = .ok (.ireturn, 1) := by decide +kernel
theorem d_Mo_about_62 : decode b_Mo_about 62 = .ok (.aload_n 0, 1) := by decide +kernel
theorem d_Mo_about_63 : decode b_Mo_about 63 = .ok (.getfield 24, 3) := by decide +kernel
theorem d_Mo_about_66 : decode b_Mo_about 66 = .ok (.aload_n 0, 1) := by decide +kernel
theorem d_Mo_about_67 : decode b_Mo_about 67 = .ok (.getfield 240, 3) := by decide +kernel
theorem d_Mo_about_70 : decode b_Mo_about 70 = .ok (.iaload, 1) := by decide +kernel
theorem d_Mo_about_71 : decode b_Mo_about 71 = .ok (.ireturn, 1) := by decide +kernel
theorem d_Mo_about_72 : decode b_Mo_about 72 = .ok (.aload_n 0, 1) := by decide +kernel
theorem d_Mo_about_73 : decode b_Mo_about 73 = .ok (.getfield 27, 3) := by decide +kernel
theorem d_Mo_about_76 : decode b_Mo_about 76 = .ok (.aload_n 0, 1) := by decide +kernel
theorem d_Mo_about_77 : decode b_Mo_about 77 = .ok (.getfield 240, 3) := by decide +kernel
theorem d_Mo_about_80 : decode b_Mo_about 80 = .ok (.iaload, 1) := by decide +kernel
theorem d_Mo_about_81 : decode b_Mo_about 81 = .ok (.ireturn, 1) := by decide +kernel
theorem d_Mo_about_82 : decode b_Mo_about 82 = .ok (.aload_n 0, 1) := by decide +kernel
theorem d_Mo_about_83 : decode b_Mo_about 83 = .ok (.getfield 30, 3) := by decide +kernel
theorem d_Mo_about_86 : decode b_Mo_about 86 = .ok (.aload_n 0, 1) := by decide +kernel
theorem d_Mo_about_87 : decode b_Mo_about 87 = .ok (.getfield 240, 3) := by decide +kernel
theorem d_Mo_about_90 : decode b_Mo_about 90 = .ok (.iaload, 1) := by decide +kernel
theorem d_Mo_about_91 : decode b_Mo_about 91 = .ok (.ireturn, 1) := by decide +kernel
theorem d_Mo_about_92 : decode b_Mo_about 92 = .ok (.aload_n 0, 1) := by decide +kernel
theorem d_Mo_about_93 : decode b_Mo_about 93 = .ok (.getfield 33, 3) := by decide +kernel
theorem d_Mo_about_96 : decode b_Mo_about 96 = .ok (.aload_n 0, 1) := by decide +kernel
theorem d_Mo_about_97 : decode b_Mo_about 97 = .ok (.getfield 240, 3) := by decide +kernel
theorem d_Mo_about_100 : decode b_Mo_about 100 = .ok (.iaload, 1) := by decide +kernel
theorem d_Mo_about_101 : decode b_Mo_about 101 = .ok (.ireturn, 1) := by decide +kernel
theorem d_Mo_about_102 : decode b_Mo_about 102 = .ok (.aload_n 0, 1) := by decide +kernel
theorem d_Mo_about_103 : decode b_Mo_about 103 = .ok (.getfield 36, 3) := by decide +kernel
theorem d_Mo_about_106 : decode b_Mo_about 106 = .ok (.aload_n 0, 1) := by decide +kernel
theorem d_Mo_about_107 : decode b_Mo_about 107 = .ok (.getfield 240, 3) := by decide +kernel
theorem d_Mo_about_110 : decode b_Mo_about 110 = .ok (.iaload, 1) := by decide +kernel
theorem d_Mo_about_111 : decode b_Mo_about 111 = .ok (.ireturn, 1) := by decide +kernel
theorem d_Mo_about_112 : decode b_Mo_about 112 = .ok (.aload_n 0, 1) := by decide +kernel
theorem d_Mo_about_113 : decode b_Mo_about 113 = .ok (.getfield 249, 3) := by decide +kernel
theorem d_Mo_about_116 : decode b_Mo_about 116 = .ok (.ireturn, 1) := by decide +kernel
theorem d_Mo_about_117 : decode b_Mo_about 117 = .ok (.aload_n 0, 1) := by decide +kernel
theorem d_Mo_about_118 : decode b_Mo_about 118 = .ok (.getfield 318, 3) := by decide +kernel
theorem d_Mo_about_121 : decode b_Mo_about 121 = .ok (.ireturn, 1) := by decide +kernel
theorem d_Mo_about_122 : decode b_Mo_about 122 = .ok (.aload_n 0, 1) := by decide +kernel
theorem d_Mo_about_123 : decode b_Mo_about 123 = .ok (.getfield 237, 3) := by decide +kernel
theorem d_Mo_about_126 : decode b_Mo_about 126 = .ok (.ireturn, 1) := by decide +kernel
theorem d_Mo_about_127 : decode b_Mo_about 127 = .ok (.iconst (-1), 1) := by decide +kernel
theorem d_Mo_about_128 : decode b_Mo_about 128 = .ok (.ireturn, 1) := by decide +kernel
theorem d_Mo_alive_0 : decode b_Mo_alive 0 = .ok (.aload_n 0, 1) := by decide +kernel
end
section
theorem d_Mo_alive_1 : decode b_Mo_alive 1 = .ok (.iload_n 1, 1) := by decide +kernel
theorem d_Mo_alive_2 : decode b_Mo_alive 2 = .ok (.invokevirtual 309, 3) := by decide +kernel
theorem d_Mo_alive_5 : decode b_Mo_alive 5 = .ok (.ifCond .eq 10, 3) := by decide +kernel
theorem d_Mo_alive_15 : decode b_Mo_alive 15 = .ok (.iconst (-1), 1) := by decide +kernel
theorem d_Mo_alive_16 : decode b_Mo_alive 16 = .ok (.ireturn, 1) := by decide +kernel
theorem d_Mo_apart_0 : decode b_Mo_apart 0 = .ok (.aload_n 0, 1) := by decide +kernel
theorem d_Mo_apart_1 : decode b_Mo_apart 1 = .ok (.iload_n 1, 1) := by decide +kernel
theorem d_Mo_apart_2 : decode b_Mo_apart 2 = .ok (.invokevirtual 339, 3) := by decide +kernel
theorem d_Mo_apart_5 : decode b_Mo_apart 5 = .ok (.ifCond .eq 28, 3) := by decide +kernel
theorem d_Mo_apart_33 : decode b_Mo_apart 33 = .ok (.iconst (-1), 1) := by decide +kernel
theorem d_Mo_apart_34 : decode b_Mo_apart 34 = .ok (.ireturn, 1) := by decide +kernel
theorem d_Mo_changes_0 : decode b_Mo_changes 0 = .ok (.aload_n 0, 1) := by decide +kernel
theorem d_Mo_changes_1 : decode b_Mo_changes 1 = .ok (.iload_n 1, 1) := by decide +kernel
theorem d_Mo_changes_2 : decode b_Mo_changes 2 = .ok (.invokevirtual 402, 3) := by decide +kernel
theorem d_Mo_changes_5 : decode b_Mo_changes 5 = .ok (.ifCond .eq 20, 3) := by decide +kernel
theorem d_Mo_changes_25 : decode b_Mo_changes 25 = .ok (.iconst (-1), 1) := by decide +kernel
theorem d_Mo_changes_26 : decode b_Mo_changes 26 = .ok (.ireturn, 1) := by decide +kernel
theorem d_Mo_child_0 : decode b_Mo_child 0 = .ok (.aload_n 0, 1) := by decide +kernel
theorem d_Mo_child_1 : decode b_Mo_child 1 = .ok (.iload_n 1, 1) := by decide +kernel
theorem d_Mo_child_2 : decode b_Mo_child 2 = .ok (.invokevirtual 402, 3) := by decide +kernel
theorem d_Mo_child_5 : decode b_Mo_child 5 = .ok (.ifCond .eq 10, 3) := by decide +kernel
theorem d_Mo_child_15 : decode b_Mo_child 15 = .ok (.iconst (-1), 1) := by decide +kernel
theorem d_Mo_child_16 : decode b_Mo_child 16 = .ok (.ireturn, 1) := by decide +kernel
theorem d_Mo_cost_0 : decode b_Mo_cost 0 = .ok (.aload_n 0, 1) := by decide +kernel
theorem d_Mo_cost_1 : decode b_Mo_cost 1 = .ok (.iload_n 3, 1) := by decide +kernel
theorem d_Mo_cost_2 : decode b_Mo_cost 2 = .ok (.invokevirtual 388, 3) := by decide +kernel
theorem d_Mo_cost_5 : decode b_Mo_cost 5 = .ok (.ifCond .eq 16, 3) := by decide +kernel
theorem d_Mo_cost_21 : decode b_Mo_cost 21 = .ok (.iconst (-1), 1) := by decide +kernel
theorem d_Mo_cost_22 : decode b_Mo_cost 22 = .ok (.ireturn, 1) := by decide +kernel
theorem d_Mo_die_0 : decode b_Mo_die 0 = .ok (.aload_n 0, 1) := by decide +kernel
theorem d_Mo_die_1 : decode b_Mo_die 1 = .ok (.iload_n 1, 1) := by decide +kernel
theorem d_Mo_die_2 : decode b_Mo_die 2 = .ok (.invokevirtual 309, 3) := by decide +kernel
theorem d_Mo_die_5 : decode b_Mo_die 5 = .ok (.ifCond .eq 28, 3) := by decide +kernel
theorem d_Mo_die_33 : decode b_Mo_die 33 = .ok (.iconst (-1), 1) := by decide +kernel
theorem d_Mo_die_34 : decode b_Mo_die 34 = .ok (.ireturn, 1) := by decide +kernel
theorem d_Mo_end_0 : decode b_Mo_end 0 = .ok (.iload_n 1, 1) := by decide +kernel
theorem d_Mo_end_1 : decode b_Mo_end 1 = .ok (.ifCond .lt 11, 3) := by decide +kernel
theorem d_Mo_end_4 : decode b_Mo_end 4 = .ok (.iload_n 1, 1) := by decide +kernel
theorem d_Mo_end_5 : decode b_Mo_end 5 = .ok (.aload_n 0, 1) := by decide +kernel
theorem d_Mo_end_6 : decode b_Mo_end 6 = .ok (.getfield 237, 3) := by decide +kernel
theorem d_Mo_end_9 : decode b_Mo_end 9 = .ok (.if_icmp .le 5, 3) := by decide +kernel
theorem d_Mo_end_12 : decode b_Mo_end 12 = .ok (.iconst (-1), 1) := by decide +kernel
theorem d_Mo_end_13 : decode b_Mo_end 13 = .ok (.ireturn, 1) := by decide +kernel
theorem d_Mo_end_14 : decode b_Mo_end 14 = .ok (.aload_n 0, 1) := by decide +kernel
theorem d_Mo_end_15 : decode b_Mo_end 15 = .ok (.iload_n 1, 1) := by decide +kernel
theorem d_Mo_end_16 : decode b_Mo_end 16 = .ok (.putfield 237, 3) := by decide +kernel
theorem d_Mo_end_19 : decode b_Mo_end 19 = .ok (.iload_n 1, 1) := by decide +kernel
theorem d_Mo_end_20 : decode b_Mo_end 20 = .ok (.ireturn, 1) := by decide +kernel
theorem d_Mo_fault_0 : decode b_Mo_fault 0 = .ok (.iload_n 1, 1) := by decide +kernel
theorem d_Mo_fault_1 : decode b_Mo_fault 1 = .ok (.ifCond .ne 10, 3) := by decide +kernel
theorem d_Mo_fault_4 : decode b_Mo_fault 4 = .ok (.aload_n 0, 1) := by decide +kernel
theorem d_Mo_fault_5 : decode b_Mo_fault 5 = .ok (.getfield 145, 3) := by decide +kernel
theorem d_Mo_fault_8 : decode b_Mo_fault 8 = .ok (.goto 16, 3) := by decide +kernel
theorem d_Mo_fault_11 : decode b_Mo_fault 11 = .ok (.iload_n 1, 1) := by decide +kernel
theorem d_Mo_fault_12 : decode b_Mo_fault 12 = .ok (.iconst 1, 1) := by decide +kernel
theorem d_Mo_fault_13 : decode b_Mo_fault 13 = .ok (.if_icmp .ne 10, 3) := by decide +kernel
theorem d_Mo_fault_16 : decode b_Mo_fault 16 = .ok (.aload_n 0, 1) := by decide +kernel
theorem d_Mo_fault_17 : decode b_Mo_fault 17 = .ok (.getfield 16, 3) := by decide +kernel
theorem d_Mo_fault_20 : decode b_Mo_fault 20 = .ok (.goto 4, 3) := by decide +kernel
theorem d_Mo_fault_23 : decode b_Mo_fault 23 = .ok (.iconst (-1), 1) := by decide +kernel
theorem d_Mo_fault_24 : decode b_Mo_fault 24 = .ok (.ireturn, 1) := by decide +kernel
theorem d_Mo_feed_0 : decode b_Mo_feed 0 = .ok (.aload_n 0, 1) := by decide +kernel
theorem d_Mo_feed_1 : decode b_Mo_feed 1 = .ok (.getfield 237, 3) := by decide +kernel
theorem d_Mo_feed_4 : decode b_Mo_feed 4 = .ok (.bipush 20, 2) := by decide +kernel
theorem d_Mo_feed_6 : decode b_Mo_feed 6 = .ok (.iadd, 1) := by decide +kernel
theorem d_Mo_feed_7 : decode b_Mo_feed 7 = .ok (.sipush 1600, 3) := by decide +kernel
theorem d_Mo_feed_10 : decode b_Mo_feed 10 = .ok (.if_icmp .le 5, 3) := by decide +kernel
theorem d_Mo_feed_15 : decode b_Mo_feed 15 = .ok (.iconst 0, 1) := by decide +kernel
theorem d_Mo_feed_16 : decode b_Mo_feed 16 = .ok (.istore 6, 2) := by decide +kernel
theorem d_Mo_feed_18 : decode b_Mo_feed 18 = .ok (.iload 6, 2) := by decide +kernel
theorem d_Mo_feed_20 : decode b_Mo_feed 20 = .ok (.bipush 20, 2) := by decide +kernel
theorem d_Mo_feed_22 : decode b_Mo_feed 22 = .ok (.if_icmp .ge 83, 3) := by decide +kernel
theorem d_Mo_feed_25 : decode b_Mo_feed 25 = .ok (.iload 6, 2) := by decide +kernel
theorem d_Mo_feed_27 : decode b_Mo_feed 27 = .ok (.iconst 4, 1) := by decide +kernel
theorem d_Mo_feed_28 : decode b_Mo_feed 28 = .ok (.if_icmp .ge 7, 3) := by decide +kernel
theorem d_Mo_feed_31 : decode b_Mo_feed 31 = .ok (.iload_n 1, 1) := by decide +kernel
theorem d_Mo_feed_32 : decode b_Mo_feed 32 = .ok (.goto 39, 3) := by decide +kernel
theorem d_Mo_feed_35 : decode b_Mo_feed 35 = .ok (.iload 6, 2) := by decide +kernel
theorem d_Mo_feed_37 : decode b_Mo_feed 37 = .ok (.bipush 8, 2) := by decide +kernel
theorem d_Mo_feed_39 : decode b_Mo_feed 39 = .ok (.if_icmp .ge 7, 3) := by decide +kernel
theorem d_Mo_feed_42 : decode b_Mo_feed 42 = .ok (.iload_n 2, 1) := by decide +kernel
theorem d_Mo_feed_43 : decode b_Mo_feed 43 = .ok (.goto 28, 3) := by decide +kernel
theorem d_Mo_feed_46 : decode b_Mo_feed 46 = .ok (.iload 6, 2) := by decide +kernel
theorem d_Mo_feed_48 : decode b_Mo_feed 48 = .ok (.bipush 12, 2) := by decide +kernel
theorem d_Mo_feed_50 : decode b_Mo_feed 50 = .ok (.if_icmp .ge 7, 3) := by decide +kernel
theorem d_Mo_feed_53 : decode b_Mo_feed 53 = .ok (.iload_n 3, 1) := by decide +kernel
theorem d_Mo_feed_54 : decode b_Mo_feed 54 = .ok (.goto 17, 3) := by decide +kernel
theorem d_Mo_feed_57 : decode b_Mo_feed 57 = .ok (.iload 6, 2) := by decide +kernel
theorem d_Mo_feed_59 : decode b_Mo_feed 59 = .ok (.bipush 16, 2) := by decide +kernel
theorem d_Mo_feed_61 : decode b_Mo_feed 61 = .ok (.if_icmp .ge 8, 3) := by decide +kernel
theorem d_Mo_feed_64 : decode b_Mo_feed 64 = .ok (.iload 4, 2) := by decide +kernel
theorem d_Mo_feed_66 : decode b_Mo_feed 66 = .ok (.goto 5, 3) := by decide +kernel
theorem d_Mo_feed_69 : decode b_Mo_feed 69 = .ok (.iload 5, 2) := by decide +kernel
theorem d_Mo_feed_71 : decode b_Mo_feed 71 = .ok (.istore 7, 2) := by decide +kernel
theorem d_Mo_feed_73 : decode b_Mo_feed 73 = .ok (.aload_n 0, 1) := by decide +kernel
theorem d_Mo_feed_74 : decode b_Mo_feed 74 = .ok (.getfield 7, 3) := by decide +kernel
theorem d_Mo_feed_77 : decode b_Mo_feed 77 = .ok (.aload_n 0, 1) := by decide +kernel
theorem d_Mo_feed_78 : decode b_Mo_feed 78 = .ok (.getfield 237, 3) := by decide +kernel
theorem d_Mo_feed_81 : decode b_Mo_feed 81 = .ok (.iload 6, 2) := by decide +kernel
theorem d_Mo_feed_83 : decode b_Mo_feed 83 = .ok (.iadd, 1) := by decide +kernel
theorem d_Mo_feed_84 : decode b_Mo_feed 84 = .ok (.iload 7, 2) := by decide +kernel
theorem d_Mo_feed_86 : decode b_Mo_feed 86 = .ok (.bipush 24, 2) := by decide +kernel
theorem d_Mo_feed_88 : decode b_Mo_feed 88 = .ok (.bipush 8, 2) := by decide +kernel
theorem d_Mo_feed_90 : decode b_Mo_feed 90 = .ok (.iload 6, 2) := by decide +kernel
theorem d_Mo_feed_92 : decode b_Mo_feed 92 = .ok (.iconst 3, 1) := by decide +kernel
theorem d_Mo_feed_93 : decode b_Mo_feed 93 = .ok (.iand, 1) := by decide +kernel
theorem d_Mo_feed_94 : decode b_Mo_feed 94 = .ok (.imul, 1) := by decide +kernel
theorem d_Mo_feed_95 : decode b_Mo_feed 95 = .ok (.isub, 1) := by decide +kernel
theorem d_Mo_feed_96 : decode b_Mo_feed 96 = .ok (.ishr, 1) := by decide +kernel
theorem d_Mo_feed_97 : decode b_Mo_feed 97 = .ok (.i2b, 1) := by decide +kernel
theorem d_Mo_feed_98 : decode b_Mo_feed 98 = .ok (.bastore, 1) := by decide +kernel
theorem d_Mo_feed_99 : decode b_Mo_feed 99 = .ok (.iinc 6 1, 3) := by decide +kernel
theorem d_Mo_feed_102 : decode b_Mo_feed 102 = .ok (.goto (-84), 3) := by decide +kernel
theorem d_Mo_feed_105 : decode b_Mo_feed 105 = .ok (.aload_n 0, 1) := by decide +kernel
theorem d_Mo_feed_106 : decode b_Mo_feed 106 = .ok (.dup, 1) := by decide +kernel
theorem d_Mo_feed_107 : decode b_Mo_feed 107 = .ok (.getfield 237, 3) := by decide +kernel
theorem d_Mo_feed_110 : decode b_Mo_feed 110 = .ok (.bipush 20, 2) := by decide +kernel
theorem d_Mo_feed_112 : decode b_Mo_feed 112 = .ok (.iadd, 1) := by decide +kernel
theorem d_Mo_feed_113 : decode b_Mo_feed 113 = .ok (.putfield 237, 3) := by decide +kernel
theorem d_Mo_feed_116 : decode b_Mo_feed 116 = .ok (.aload_n 0, 1) := by decide +kernel
theorem d_Mo_feed_117 : decode b_Mo_feed 117 = .ok (.getfield 237, 3) := by decide +kernel
theorem d_Mo_feed_120 : decode b_Mo_feed 120 = .ok (.ireturn, 1) := by decide +kernel
theorem d_Mo_grasp_0 : decode b_Mo_grasp 0 = .ok (.aload_n 0, 1) := by decide +kernel
theorem d_Mo_grasp_1 : decode b_Mo_grasp 1 = .ok (.iload_n 1, 1) := by decide +kernel
theorem d_Mo_grasp_2 : decode b_Mo_grasp 2 = .ok (.iload_n 2, 1) := by decide +kernel
theorem d_Mo_grasp_3 : decode b_Mo_grasp 3 = .ok (.iload_n 3, 1) := by decide +kernel
theorem d_Mo_grasp_4 : decode b_Mo_grasp 4 = .ok (.iload 4, 2) := by decide +kernel
theorem d_Mo_grasp_6 : decode b_Mo_grasp 6 = .ok (.invokevirtual 370, 3) := by decide +kernel
theorem d_Mo_grasp_9 : decode b_Mo_grasp 9 = .ok (.ifCond .eq 13, 3) := by decide +kernel
theorem d_Mo_grasp_22 : decode b_Mo_grasp 22 = .ok (.iconst (-1), 1) := by decide +kernel
theorem d_Mo_grasp_23 : decode b_Mo_grasp 23 = .ok (.ireturn, 1) := by decide +kernel
theorem d_Mo_hurt_0 : decode b_Mo_hurt 0 = .ok (.aload_n 0, 1) := by decide +kernel
theorem d_Mo_hurt_1 : decode b_Mo_hurt 1 = .ok (.iload_n 1, 1) := by decide +kernel
theorem d_Mo_hurt_2 : decode b_Mo_hurt 2 = .ok (.invokevirtual 402, 3) := by decide +kernel
theorem d_Mo_hurt_5 : decode b_Mo_hurt 5 = .ok (.ifCond .eq 18, 3) := by decide +kernel
theorem d_Mo_hurt_23 : decode b_Mo_hurt 23 = .ok (.sipush (-1000), 3) := by decide +kernel
theorem d_Mo_hurt_26 : decode b_Mo_hurt 26 = .ok (.ireturn, 1) := by decide +kernel
theorem d_Mo_instead_0 : decode b_Mo_instead 0 = .ok (.aload_n 0, 1) := by decide +kernel
theorem d_Mo_instead_1 : decode b_Mo_instead 1 = .ok (.iload_n 3, 1) := by decide +kernel
theorem d_Mo_instead_2 : decode b_Mo_instead 2 = .ok (.invokevirtual 388, 3) := by decide +kernel
theorem d_Mo_instead_5 : decode b_Mo_instead 5 = .ok (.ifCond .eq 28, 3) := by decide +kernel
theorem d_Mo_instead_33 : decode b_Mo_instead 33 = .ok (.iconst (-1), 1) := by decide +kernel
theorem d_Mo_instead_34 : decode b_Mo_instead 34 = .ok (.ireturn, 1) := by decide +kernel
theorem d_Mo_isIn_0 : decode b_Mo_isIn 0 = .ok (.iload_n 0, 1) := by decide +kernel
theorem d_Mo_isIn_1 : decode b_Mo_isIn 1 = .ok (.iload_n 1, 1) := by decide +kernel
theorem d_Mo_isIn_2 : decode b_Mo_isIn 2 = .ok (.if_icmp .lt 12, 3) := by decide +kernel
theorem d_Mo_isIn_5 : decode b_Mo_isIn 5 = .ok (.iload_n 0, 1) := by decide +kernel
theorem d_Mo_isIn_6 : decode b_Mo_isIn 6 = .ok (.iload_n 2, 1) := by decide +kernel
theorem d_Mo_isIn_7 : decode b_Mo_isIn 7 = .ok (.if_icmp .gt 7, 3) := by decide +kernel
theorem d_Mo_isIn_10 : decode b_Mo_isIn 10 = .ok (.iconst 1, 1) := by decide +kernel
theorem d_Mo_isIn_11 : decode b_Mo_isIn 11 = .ok (.goto 4, 3) := by decide +kernel
theorem d_Mo_isIn_14 : decode b_Mo_isIn 14 = .ok (.iconst 0, 1) := by decide +kernel
theorem d_Mo_isIn_15 : decode b_Mo_isIn 15 = .ok (.ireturn, 1) := by decide +kernel
theorem d_Mo_isMeaning_0 : decode b_Mo_isMeaning 0 = .ok (.iload_n 1, 1) := by decide +kernel
theorem d_Mo_isMeaning_1 : decode b_Mo_isMeaning 1 = .ok (.iconst 0, 1) := by decide +kernel
theorem d_Mo_isMeaning_2 : decode b_Mo_isMeaning 2 = .ok (.aload_n 0, 1) := by decide +kernel
theorem d_Mo_isMeaning_3 : decode b_Mo_isMeaning 3 = .ok (.getfield 24, 3) := by decide +kernel
theorem d_Mo_isMeaning_6 : decode b_Mo_isMeaning 6 = .ok (.aload_n 0, 1) := by decide +kernel
theorem d_Mo_isMeaning_7 : decode b_Mo_isMeaning 7 = .ok (.getfield 240, 3) := by decide +kernel
theorem d_Mo_isMeaning_10 : decode b_Mo_isMeaning 10 = .ok (.iaload, 1) := by decide +kernel
theorem d_Mo_isMeaning_11 : decode b_Mo_isMeaning 11 = .ok (.iconst 1, 1) := by decide +kernel
theorem d_Mo_isMeaning_12 : decode b_Mo_isMeaning 12 = .ok (.isub, 1) := by decide +kernel
theorem d_Mo_isMeaning_13 : decode b_Mo_isMeaning 13 = .ok (.invokestatic 305, 3) := by decide +kernel
theorem d_Mo_isMeaning_16 : decode b_Mo_isMeaning 16 = .ok (.ireturn, 1) := by decide +kernel
theorem d_Mo_isPerson_0 : decode b_Mo_isPerson 0 = .ok (.iload_n 1, 1) := by decide +kernel
theorem d_Mo_isPerson_1 : decode b_Mo_isPerson 1 = .ok (.iconst 0, 1) := by decide +kernel
theorem d_Mo_isPerson_2 : decode b_Mo_isPerson 2 = .ok (.aload_n 0, 1) := by decide +kernel
theorem d_Mo_isPerson_3 : decode b_Mo_isPerson 3 = .ok (.getfield 33, 3) := by decide +kernel
theorem d_Mo_isPerson_6 : decode b_Mo_isPerson 6 = .ok (.aload_n 0, 1) := by decide +kernel
theorem d_Mo_isPerson_7 : decode b_Mo_isPerson 7 = .ok (.getfield 240, 3) := by decide +kernel
theorem d_Mo_isPerson_10 : decode b_Mo_isPerson 10 = .ok (.iaload, 1) := by decide +kernel
theorem d_Mo_isPerson_11 : decode b_Mo_isPerson 11 = .ok (.iconst 1, 1) := by decide +kernel
theorem d_Mo_isPerson_12 : decode b_Mo_isPerson 12 = .ok (.isub, 1) := by decide +kernel
theorem d_Mo_isPerson_13 : decode b_Mo_isPerson 13 = .ok (.invokestatic 305, 3) := by decide +kernel
theorem d_Mo_isPerson_16 : decode b_Mo_isPerson 16 = .ok (.ireturn, 1) := by decide +kernel
theorem d_Mo_isPlace_0 : decode b_Mo_isPlace 0 = .ok (.iload_n 1, 1) := by decide +kernel
theorem d_Mo_isPlace_1 : decode b_Mo_isPlace 1 = .ok (.iconst 0, 1) := by decide +kernel
theorem d_Mo_isPlace_2 : decode b_Mo_isPlace 2 = .ok (.aload_n 0, 1) := by decide +kernel
theorem d_Mo_isPlace_3 : decode b_Mo_isPlace 3 = .ok (.getfield 20, 3) := by decide +kernel
theorem d_Mo_isPlace_6 : decode b_Mo_isPlace 6 = .ok (.aload_n 0, 1) := by decide +kernel
theorem d_Mo_isPlace_7 : decode b_Mo_isPlace 7 = .ok (.getfield 240, 3) := by decide +kernel
theorem d_Mo_isPlace_10 : decode b_Mo_isPlace 10 = .ok (.iaload, 1) := by decide +kernel
theorem d_Mo_isPlace_11 : decode b_Mo_isPlace 11 = .ok (.iconst 1, 1) := by decide +kernel
theorem d_Mo_isPlace_12 : decode b_Mo_isPlace 12 = .ok (.isub, 1) := by decide +kernel
theorem d_Mo_isPlace_13 : decode b_Mo_isPlace 13 = .ok (.invokestatic 305, 3) := by decide +kernel
theorem d_Mo_isPlace_16 : decode b_Mo_isPlace 16 = .ok (.ireturn, 1) := by decide +kernel
theorem d_Mo_isWordNo_0 : decode b_Mo_isWordNo 0 = .ok (.iload_n 1, 1) := by decide +kernel
theorem d_Mo_isWordNo_1 : decode b_Mo_isWordNo 1 = .ok (.iconst 0, 1) := by decide +kernel
theorem d_Mo_isWordNo_2 : decode b_Mo_isWordNo 2 = .ok (.aload_n 0, 1) := by decide +kernel
theorem d_Mo_isWordNo_3 : decode b_Mo_isWordNo 3 = .ok (.getfield 27, 3) := by decide +kernel
theorem d_Mo_isWordNo_6 : decode b_Mo_isWordNo 6 = .ok (.aload_n 0, 1) := by decide +kernel
theorem d_Mo_isWordNo_7 : decode b_Mo_isWordNo 7 = .ok (.getfield 240, 3) := by decide +kernel
theorem d_Mo_isWordNo_10 : decode b_Mo_isWordNo 10 = .ok (.iaload, 1) := by decide +kernel
theorem d_Mo_isWordNo_11 : decode b_Mo_isWordNo 11 = .ok (.iconst 1, 1) := by decide +kernel
theorem d_Mo_isWordNo_12 : decode b_Mo_isWordNo 12 = .ok (.isub, 1) := by decide +kernel
theorem d_Mo_isWordNo_13 : decode b_Mo_isWordNo 13 = .ok (.invokestatic 305, 3) := by decide +kernel
theorem d_Mo_isWordNo_16 : decode b_Mo_isWordNo 16 = .ok (.ireturn, 1) := by decide +kernel
theorem d_Mo_judge_0 : decode b_Mo_judge 0 = .ok (.iload_n 3, 1) := by decide +kernel
theorem d_Mo_judge_1 : decode b_Mo_judge 1 = .ok (.iconst 1, 1) := by decide +kernel
theorem d_Mo_judge_2 : decode b_Mo_judge 2 = .ok (.if_icmp .lt 17, 3) := by decide +kernel
theorem d_Mo_judge_5 : decode b_Mo_judge 5 = .ok (.iload_n 3, 1) := by decide +kernel
theorem d_Mo_judge_6 : decode b_Mo_judge 6 = .ok (.ldc_w 377, 3) := by decide +kernel
theorem d_Mo_judge_9 : decode b_Mo_judge 9 = .ok (.if_icmp .ge 10, 3) := by decide +kernel
theorem d_Mo_judge_12 : decode b_Mo_judge 12 = .ok (.iload_n 3, 1) := by decide +kernel
theorem d_Mo_judge_13 : decode b_Mo_judge 13 = .ok (.bipush 32, 2) := by decide +kernel
theorem d_Mo_judge_15 : decode b_Mo_judge 15 = .ok (.irem, 1) := by decide +kernel
theorem d_Mo_judge_16 : decode b_Mo_judge 16 = .ok (.ifCond .ne 5, 3) := by decide +kernel
theorem d_Mo_judge_19 : decode b_Mo_judge 19 = .ok (.iconst (-1), 1) := by decide +kernel
theorem d_Mo_judge_20 : decode b_Mo_judge 20 = .ok (.ireturn, 1) := by decide +kernel
theorem d_Mo_judge_21 : decode b_Mo_judge 21 = .ok (.iload_n 3, 1) := by decide +kernel
theorem d_Mo_judge_22 : decode b_Mo_judge 22 = .ok (.istore 6, 2) := by decide +kernel
theorem d_Mo_judge_24 : decode b_Mo_judge 24 = .ok (.iload 6, 2) := by decide +kernel
theorem d_Mo_judge_26 : decode b_Mo_judge 26 = .ok (.bipush 32, 2) := by decide +kernel
theorem d_Mo_judge_28 : decode b_Mo_judge 28 = .ok (.irem, 1) := by decide +kernel
theorem d_Mo_judge_29 : decode b_Mo_judge 29 = .ok (.ifCond .le 29, 3) := by decide +kernel
theorem d_Mo_judge_32 : decode b_Mo_judge 32 = .ok (.aload_n 0, 1) := by decide +kernel
theorem d_Mo_judge_33 : decode b_Mo_judge 33 = .ok (.iload 6, 2) := by decide +kernel
theorem d_Mo_judge_35 : decode b_Mo_judge 35 = .ok (.bipush 32, 2) := by decide +kernel
theorem d_Mo_judge_37 : decode b_Mo_judge 37 = .ok (.irem, 1) := by decide +kernel
theorem d_Mo_judge_38 : decode b_Mo_judge 38 = .ok (.iconst 1, 1) := by decide +kernel
theorem d_Mo_judge_39 : decode b_Mo_judge 39 = .ok (.isub, 1) := by decide +kernel
theorem d_Mo_judge_40 : decode b_Mo_judge 40 = .ok (.invokevirtual 339, 3) := by decide +kernel
theorem d_Mo_judge_43 : decode b_Mo_judge 43 = .ok (.ifCond .ne 5, 3) := by decide +kernel
theorem d_Mo_judge_46 : decode b_Mo_judge 46 = .ok (.iconst (-1), 1) := by decide +kernel
theorem d_Mo_judge_47 : decode b_Mo_judge 47 = .ok (.ireturn, 1) := by decide +kernel
theorem d_Mo_judge_58 : decode b_Mo_judge 58 = .ok (.aload_n 0, 1) := by decide +kernel
theorem d_Mo_judge_59 : decode b_Mo_judge 59 = .ok (.iload_n 1, 1) := by decide +kernel
theorem d_Mo_judge_60 : decode b_Mo_judge 60 = .ok (.iload_n 2, 1) := by decide +kernel
theorem d_Mo_judge_61 : decode b_Mo_judge 61 = .ok (.iload 4, 2) := by decide +kernel
theorem d_Mo_judge_63 : decode b_Mo_judge 63 = .ok (.iload 5, 2) := by decide +kernel
theorem d_Mo_judge_65 : decode b_Mo_judge 65 = .ok (.invokevirtual 370, 3) := by decide +kernel
theorem d_Mo_judge_68 : decode b_Mo_judge 68 = .ok (.ifCond .ne 5, 3) := by decide +kernel
theorem d_Mo_judge_71 : decode b_Mo_judge 71 = .ok (.iconst (-1), 1) := by decide +kernel
theorem d_Mo_judge_72 : decode b_Mo_judge 72 = .ok (.ireturn, 1) := by decide +kernel
theorem d_Mo_later_0 : decode b_Mo_later 0 = .ok (.iload_n 1, 1) := by decide +kernel
theorem d_Mo_later_1 : decode b_Mo_later 1 = .ok (.iconst 0, 1) := by decide +kernel
theorem d_Mo_later_2 : decode b_Mo_later 2 = .ok (.sipush 1000, 3) := by decide +kernel
theorem d_Mo_later_5 : decode b_Mo_later 5 = .ok (.invokestatic 305, 3) := by decide +kernel
theorem d_Mo_later_8 : decode b_Mo_later 8 = .ok (.ifCond .eq 15, 3) := by decide +kernel
theorem d_Mo_later_11 : decode b_Mo_later 11 = .ok (.aload_n 0, 1) := by decide +kernel
theorem d_Mo_later_12 : decode b_Mo_later 12 = .ok (.getfield 318, 3) := by decide +kernel
theorem d_Mo_later_15 : decode b_Mo_later 15 = .ok (.iload_n 1, 1) := by decide +kernel
theorem d_Mo_later_16 : decode b_Mo_later 16 = .ok (.iadd, 1) := by decide +kernel
theorem d_Mo_later_17 : decode b_Mo_later 17 = .ok (.ldc_w 321, 3) := by decide +kernel
theorem d_Mo_later_20 : decode b_Mo_later 20 = .ok (.if_icmp .le 5, 3) := by decide +kernel
theorem d_Mo_later_23 : decode b_Mo_later 23 = .ok (.iconst (-1), 1) := by decide +kernel
theorem d_Mo_later_24 : decode b_Mo_later 24 = .ok (.ireturn, 1) := by decide +kernel
theorem d_Mo_later_25 : decode b_Mo_later 25 = .ok (.aload_n 0, 1) := by decide +kernel
theorem d_Mo_later_26 : decode b_Mo_later 26 = .ok (.dup, 1) := by decide +kernel
theorem d_Mo_later_27 : decode b_Mo_later 27 = .ok (.getfield 318, 3) := by decide +kernel
theorem d_Mo_later_30 : decode b_Mo_later 30 = .ok (.iload_n 1, 1) := by decide +kernel
theorem d_Mo_later_31 : decode b_Mo_later 31 = .ok (.iadd, 1) := by decide +kernel
theorem d_Mo_later_32 : decode b_Mo_later 32 = .ok (.putfield 318, 3) := by decide +kernel
theorem d_Mo_later_35 : decode b_Mo_later 35 = .ok (.aload_n 0, 1) := by decide +kernel
theorem d_Mo_later_36 : decode b_Mo_later 36 = .ok (.getfield 318, 3) := by decide +kernel
theorem d_Mo_later_39 : decode b_Mo_later 39 = .ok (.ireturn, 1) := by decide +kernel
theorem d_Mo_may_0 : decode b_Mo_may 0 = .ok (.aload_n 0, 1) := by decide +kernel
theorem d_Mo_may_1 : decode b_Mo_may 1 = .ok (.iload_n 3, 1) := by decide +kernel
theorem d_Mo_may_2 : decode b_Mo_may 2 = .ok (.invokevirtual 339, 3) := by decide +kernel
theorem d_Mo_may_5 : decode b_Mo_may 5 = .ok (.ifCond .eq 16, 3) := by decide +kernel
theorem d_Mo_may_21 : decode b_Mo_may 21 = .ok (.iconst (-1), 1) := by decide +kernel
theorem d_Mo_may_22 : decode b_Mo_may 22 = .ok (.goto 20, 3) := by decide +kernel
theorem d_Mo_may_42 : decode b_Mo_may 42 = .ok (.ireturn, 1) := by decide +kernel
theorem d_Mo_mean_0 : decode b_Mo_mean 0 = .ok (.aload_n 0, 1) := by decide +kernel
theorem d_Mo_mean_1 : decode b_Mo_mean 1 = .ok (.iload_n 1, 1) := by decide +kernel
theorem d_Mo_mean_2 : decode b_Mo_mean 2 = .ok (.invokevirtual 402, 3) := by decide +kernel
theorem d_Mo_mean_5 : decode b_Mo_mean 5 = .ok (.ifCond .eq 30, 3) := by decide +kernel
theorem d_Mo_mean_35 : decode b_Mo_mean 35 = .ok (.ldc2_w 429, 3) := by decide +kernel
theorem d_Mo_mean_38 : decode b_Mo_mean 38 = .ok (.lreturn, 1) := by decide +kernel
theorem d_Mo_near_0 : decode b_Mo_near 0 = .ok (.aload_n 0, 1) := by decide +kernel
theorem d_Mo_near_1 : decode b_Mo_near 1 = .ok (.iload_n 1, 1) := by decide +kernel
theorem d_Mo_near_2 : decode b_Mo_near 2 = .ok (.invokevirtual 309, 3) := by decide +kernel
theorem d_Mo_near_5 : decode b_Mo_near 5 = .ok (.ifCond .eq 25, 3) := by decide +kernel
theorem d_Mo_near_30 : decode b_Mo_near 30 = .ok (.iconst (-1), 1) := by decide +kernel
theorem d_Mo_near_31 : decode b_Mo_near 31 = .ok (.ireturn, 1) := by decide +kernel
theorem d_Mo_old_0 : decode b_Mo_old 0 = .ok (.aload_n 0, 1) := by decide +kernel
theorem d_Mo_old_1 : decode b_Mo_old 1 = .ok (.iload_n 1, 1) := by decide +kernel
theorem d_Mo_old_2 : decode b_Mo_old 2 = .ok (.invokevirtual 388, 3) := by decide +kernel
theorem d_Mo_old_5 : decode b_Mo_old 5 = .ok (.ifCond .eq 12, 3) := by decide +kernel
theorem d_Mo_old_17 : decode b_Mo_old 17 = .ok (.iconst (-1), 1) := by decide +kernel
theorem d_Mo_old_18 : decode b_Mo_old 18 = .ok (.ireturn, 1) := by decide +kernel
theorem d_Mo_parted_0 : decode b_Mo_parted 0 = .ok (.aload_n 0, 1) := by decide +kernel
theorem d_Mo_parted_1 : decode b_Mo_parted 1 = .ok (.iload_n 1, 1) := by decide +kernel
theorem d_Mo_parted_2 : decode b_Mo_parted 2 = .ok (.invokevirtual 402, 3) := by decide +kernel
theorem d_Mo_parted_5 : decode b_Mo_parted 5 = .ok (.ifCond .eq 18, 3) := by decide +kernel
theorem d_Mo_parted_23 : decode b_Mo_parted 23 = .ok (.iconst (-1), 1) := by decide +kernel
theorem d_Mo_parted_24 : decode b_Mo_parted 24 = .ok (.ireturn, 1) := by decide +kernel
theorem d_Mo_renewed_0 : decode b_Mo_renewed 0 = .ok (.aload_n 0, 1) := by decide +kernel
theorem d_Mo_renewed_1 : decode b_Mo_renewed 1 = .ok (.iload_n 1, 1) := by decide +kernel
theorem d_Mo_renewed_2 : decode b_Mo_renewed 2 = .ok (.invokevirtual 402, 3) := by decide +kernel
theorem d_Mo_renewed_5 : decode b_Mo_renewed 5 = .ok (.ifCond .eq 11, 3) := by decide +kernel
theorem d_Mo_renewed_16 : decode b_Mo_renewed 16 = .ok (.iconst (-1), 1) := by decide +kernel
theorem d_Mo_renewed_17 : decode b_Mo_renewed 17 = .ok (.ireturn, 1) := by decide +kernel
theorem d_Mo_safe_0 : decode b_Mo_safe 0 = .ok (.aload_n 0, 1) := by decide +kernel
theorem d_Mo_safe_1 : decode b_Mo_safe 1 = .ok (.iload_n 1, 1) := by decide +kernel
theorem d_Mo_safe_2 : decode b_Mo_safe 2 = .ok (.invokevirtual 402, 3) := by decide +kernel
theorem d_Mo_safe_5 : decode b_Mo_safe 5 = .ok (.ifCond .eq 11, 3) := by decide +kernel
theorem d_Mo_safe_16 : decode b_Mo_safe 16 = .ok (.iconst (-1), 1) := by decide +kernel
theorem d_Mo_safe_17 : decode b_Mo_safe 17 = .ok (.ireturn, 1) := by decide +kernel
theorem d_Mo_speak_0 : decode b_Mo_speak 0 = .ok (.aload_n 0, 1) := by decide +kernel
theorem d_Mo_speak_1 : decode b_Mo_speak 1 = .ok (.iload_n 1, 1) := by decide +kernel
theorem d_Mo_speak_2 : decode b_Mo_speak 2 = .ok (.invokevirtual 309, 3) := by decide +kernel
theorem d_Mo_speak_5 : decode b_Mo_speak 5 = .ok (.ifCond .eq 23, 3) := by decide +kernel
theorem d_Mo_speak_28 : decode b_Mo_speak 28 = .ok (.iconst 0, 1) := by decide +kernel
theorem d_Mo_speak_29 : decode b_Mo_speak 29 = .ok (.ireturn, 1) := by decide +kernel
theorem d_Mo_tell_0 : decode b_Mo_tell 0 = .ok (.aload_n 0, 1) := by decide +kernel
theorem d_Mo_tell_1 : decode b_Mo_tell 1 = .ok (.iload_n 3, 1) := by decide +kernel
theorem d_Mo_tell_2 : decode b_Mo_tell 2 = .ok (.invokevirtual 388, 3) := by decide +kernel
theorem d_Mo_tell_5 : decode b_Mo_tell 5 = .ok (.ifCond .eq 28, 3) := by decide +kernel
theorem d_Mo_tell_33 : decode b_Mo_tell 33 = .ok (.iconst (-1), 1) := by decide +kernel
theorem d_Mo_tell_34 : decode b_Mo_tell 34 = .ok (.ireturn, 1) := by decide +kernel
theorem d_Mo_today_0 : decode b_Mo_today 0 = .ok (.aload_n 0, 1) := by decide +kernel
theorem d_Mo_today_1 : decode b_Mo_today 1 = .ok (.iload_n 1, 1) := by decide +kernel
theorem d_Mo_today_2 : decode b_Mo_today 2 = .ok (.invokevirtual 402, 3) := by decide +kernel
theorem d_Mo_today_5 : decode b_Mo_today 5 = .ok (.ifCond .eq 18, 3) := by decide +kernel
theorem d_Mo_today_23 : decode b_Mo_today 23 = .ok (.iconst (-1), 1) := by decide +kernel
theorem d_Mo_today_24 : decode b_Mo_today 24 = .ok (.ireturn, 1) := by decide +kernel
theorem d_Mo_told_0 : decode b_Mo_told 0 = .ok (.aload_n 0, 1) := by decide +kernel
theorem d_Mo_told_1 : decode b_Mo_told 1 = .ok (.iload_n 1, 1) := by decide +kernel
theorem d_Mo_told_2 : decode b_Mo_told 2 = .ok (.iload_n 2, 1) := by decide +kernel
theorem d_Mo_told_3 : decode b_Mo_told 3 = .ok (.iload_n 3, 1) := by decide +kernel
theorem d_Mo_told_4 : decode b_Mo_told 4 = .ok (.iload 4, 2) := by decide +kernel
theorem d_Mo_told_6 : decode b_Mo_told 6 = .ok (.iload 6, 2) := by decide +kernel
theorem d_Mo_told_8 : decode b_Mo_told 8 = .ok (.invokevirtual 423, 3) := by decide +kernel
theorem d_Mo_told_11 : decode b_Mo_told 11 = .ok (.istore 7, 2) := by decide +kernel
theorem d_Mo_told_13 : decode b_Mo_told 13 = .ok (.iload 5, 2) := by decide +kernel
theorem d_Mo_told_15 : decode b_Mo_told 15 = .ok (.iconst 0, 1) := by decide +kernel
theorem d_Mo_told_16 : decode b_Mo_told 16 = .ok (.iload 7, 2) := by decide +kernel
theorem d_Mo_told_18 : decode b_Mo_told 18 = .ok (.iconst 1, 1) := by decide +kernel
theorem d_Mo_told_19 : decode b_Mo_told 19 = .ok (.isub, 1) := by decide +kernel
theorem d_Mo_told_20 : decode b_Mo_told 20 = .ok (.invokestatic 305, 3) := by decide +kernel
theorem d_Mo_told_23 : decode b_Mo_told 23 = .ok (.ifCond .eq 13, 3) := by decide +kernel
theorem d_Mo_told_36 : decode b_Mo_told 36 = .ok (.iconst (-1), 1) := by decide +kernel
theorem d_Mo_told_37 : decode b_Mo_told 37 = .ok (.ireturn, 1) := by decide +kernel
theorem d_Mo_untell_0 : decode b_Mo_untell 0 = .ok (.iload_n 1, 1) := by decide +kernel
theorem d_Mo_untell_1 : decode b_Mo_untell 1 = .ok (.iconst 0, 1) := by decide +kernel
theorem d_Mo_untell_2 : decode b_Mo_untell 2 = .ok (.aload_n 0, 1) := by decide +kernel
theorem d_Mo_untell_3 : decode b_Mo_untell 3 = .ok (.getfield 249, 3) := by decide +kernel
theorem d_Mo_untell_6 : decode b_Mo_untell 6 = .ok (.iconst 1, 1) := by decide +kernel
theorem d_Mo_untell_7 : decode b_Mo_untell 7 = .ok (.isub, 1) := by decide +kernel
theorem d_Mo_untell_8 : decode b_Mo_untell 8 = .ok (.invokestatic 305, 3) := by decide +kernel
theorem d_Mo_untell_11 : decode b_Mo_untell 11 = .ok (.ifCond .eq 12, 3) := by decide +kernel
theorem d_Mo_untell_23 : decode b_Mo_untell 23 = .ok (.iconst 0, 1) := by decide +kernel
theorem d_Mo_untell_24 : decode b_Mo_untell 24 = .ok (.ireturn, 1) := by decide +kernel
theorem d_Mo_wish_0 : decode b_Mo_wish 0 = .ok (.aload_n 0, 1) := by decide +kernel
theorem d_Mo_wish_1 : decode b_Mo_wish 1 = .ok (.iload_n 1, 1) := by decide +kernel
theorem d_Mo_wish_2 : decode b_Mo_wish 2 = .ok (.invokevirtual 402, 3) := by decide +kernel
theorem d_Mo_wish_5 : decode b_Mo_wish 5 = .ok (.ifCond .eq 10, 3) := by decide +kernel
theorem d_Mo_wish_15 : decode b_Mo_wish 15 = .ok (.iconst (-1), 1) := by decide +kernel
theorem d_Mo_wish_16 : decode b_Mo_wish 16 = .ok (.ireturn, 1) := by decide +kernel
end
section
set_option maxHeartbeats 4000000 in
set_option maxRecDepth 100000 in
theorem c_NF_isPlace (l : Launch) (D : va_G) (cB cI cJ : ClassId) (o0 : Nat) (p0 : Int32) (o1 : Nat) (o2 : Nat) (o3 : Nat) (o4 : Nat) (o5 : Nat) (o6 : Nat) (o7 : Nat) (o8 : Nat) (o9 : Nat) (o10 : Nat) (u1 : Nat) (u2 : Nat) (u3 : Nat) (u4 : Nat) (u5 : Nat) (u11 : Nat) (u12 : Nat) (u13 : Nat) (u14 : Nat) (u15 : Nat) (u16 : Nat) (u17 : Nat) : nz_Ci l D cB cI cJ nz_x0 y_NF_isPlace b_NF_isPlace 2 (some .boolean) { frames := 0, cells := 0, slots := 0, locals := 0 } [.ref o0, .int p0] [(o0, .inr (11, [.ref o1, .int 0, .ref o2, .ref o3, .ref o4, .ref o5, .ref o6, .ref o7, .ref o8, .ref o9, .ref o10])), (o2, .inr (3, [.ref u1, .ref u2, .ref u3, .ref u4, .ref u5])), (u1, .inr (6, [.int 0, .ref u11, .ref u12, .ref u13, .ref u14, .ref u15, .ref u16, .ref u17]))] (fun r w => r = 0 ∧ w = [(o0, .inr (11, [.ref o1, .int 0, .ref o2, .ref o3, .ref o4, .ref o5, .ref o6, .ref o7, .ref o8, .ref o9, .ref o10])), (o2, .inr (3, [.ref u1, .ref u2, .ref u3, .ref u4, .ref u5])), (u1, .inr (6, [.int 0, .ref u11, .ref u12, .ref u13, .ref u14, .ref u15, .ref u16, .ref u17]))]) := by
  refine nz_Ci.mk (by decide) (Nat.le_of_ble_eq_true rfl) ?_
  intro p e s m below meth c A ls C0 hnm hP hD hS hA hX hl
  have C0 : nz_Cx p s m _ meth c b_NF_isPlace 2 (some .boolean) R_NF D cB cI cJ := C0
  obtain ⟨hx, hb, hr, hml, hown, hts, hlk, hK⟩ := id C0
  have hl : lv_has ls 2 [(0, .ref o0), (1, .int p0)] := hl
  refine lv_iload_n hx hb d_NF_isPlace_0 rfl (lv_at hl 1 rfl) ?_
  refine lv_if_lt (tgt := 22) hx hb d_NF_isPlace_1 (by decide) (fun c_1 => ?_) (fun c_1 => ?_)
  · refine lv_iconst (v := 0) hx hb d_NF_isPlace_22 (by decide +kernel) ?_
    exact nz_retz C0 (by decide +kernel) (hP.sub (ws' := [(o0, .inr (11, [.ref o1, .int 0, .ref o2, .ref o3, .ref o4, .ref o5, .ref o6, .ref o7, .ref o8, .ref o9, .ref o10])), (o2, .inr (3, [.ref u1, .ref u2, .ref u3, .ref u4, .ref u5])), (u1, .inr (6, [.int 0, .ref u11, .ref u12, .ref u13, .ref u14, .ref u15, .ref u16, .ref u17]))]) [0, 1, 2] rfl) (hD.sub (ws' := [(o0, .inr (11, [.ref o1, .int 0, .ref o2, .ref o3, .ref o4, .ref o5, .ref o6, .ref o7, .ref o8, .ref o9, .ref o10])), (o2, .inr (3, [.ref u1, .ref u2, .ref u3, .ref u4, .ref u5])), (u1, .inr (6, [.int 0, .ref u11, .ref u12, .ref u13, .ref u14, .ref u15, .ref u16, .ref u17]))]) [0, 1, 2] (by decide) rfl) hS ⟨rfl, rfl⟩ d_NF_isPlace_23
  · refine lv_iload_n hx hb d_NF_isPlace_4 rfl (lv_at hl 1 rfl) ?_
    refine lv_aload_n hx hb d_NF_isPlace_5 rfl (lv_at hl 0 rfl) ?_
    refine va_get (D := D) (ci := 11) (v := .ref o2) (C := R_NF) (T := F_NF) (N := 11) hx hb hts i_NF hown hK.1 hP 0 rfl rfl 2 (by decide) (hts _ k_462) (fun _ h9 => h9) rfl d_NF_isPlace_6 ?_
    refine va_get (D := D) (ci := 3) (v := .ref u1) (C := R_Land) (T := F_Land) (N := 5) hx hb hts i_Land hown hK.1 hP 1 rfl rfl 0 (by decide) (hts _ k_217) (fun _ h9 => h9) rfl d_NF_isPlace_9 ?_
    refine va_get (D := D) (ci := 6) (v := .int 0) (C := R_Places) (T := F_Places) (N := 8) hx hb hts i_Places hown hK.1 hP 2 rfl rfl 0 (by decide) (hts _ k_44) (fun _ h9 => h9) rfl d_NF_isPlace_12 ?_
    refine lv_icmp_ge (tgt := 22) hx hb d_NF_isPlace_15 (by decide) (fun c_2 => ?_) (fun c_2 => ?_)
    · refine lv_iconst (v := 0) hx hb d_NF_isPlace_22 (by decide +kernel) ?_
      exact nz_retz C0 (by decide +kernel) (hP.sub (ws' := [(o0, .inr (11, [.ref o1, .int 0, .ref o2, .ref o3, .ref o4, .ref o5, .ref o6, .ref o7, .ref o8, .ref o9, .ref o10])), (o2, .inr (3, [.ref u1, .ref u2, .ref u3, .ref u4, .ref u5])), (u1, .inr (6, [.int 0, .ref u11, .ref u12, .ref u13, .ref u14, .ref u15, .ref u16, .ref u17]))]) [0, 1, 2] rfl) (hD.sub (ws' := [(o0, .inr (11, [.ref o1, .int 0, .ref o2, .ref o3, .ref o4, .ref o5, .ref o6, .ref o7, .ref o8, .ref o9, .ref o10])), (o2, .inr (3, [.ref u1, .ref u2, .ref u3, .ref u4, .ref u5])), (u1, .inr (6, [.int 0, .ref u11, .ref u12, .ref u13, .ref u14, .ref u15, .ref u16, .ref u17]))]) [0, 1, 2] (by decide) rfl) hS ⟨rfl, rfl⟩ d_NF_isPlace_23
    · exfalso; have z0 : (0 : Int32).toInt = 0 := (by decide +kernel); simp only [Int32.lt_iff_toInt_lt, Int32.le_iff_toInt_le, ← Int32.toInt_inj] at c_1 c_2; omega
set_option maxHeartbeats 4000000 in
set_option maxRecDepth 100000 in
theorem c_NF_isMeaning (l : Launch) (D : va_G) (cB cI cJ : ClassId) (o0 : Nat) (p0 : Int32) (o1 : Nat) (o2 : Nat) (o3 : Nat) (o4 : Nat) (o5 : Nat) (o6 : Nat) (o7 : Nat) (o8 : Nat) (o9 : Nat) (o10 : Nat) (u1 : Nat) (u2 : Nat) (u3 : Nat) (u4 : Nat) (u5 : Nat) (u21 : Nat) (u22 : Nat) (u23 : Nat) (u24 : Nat) : nz_Ci l D cB cI cJ nz_x0 y_NF_isMeaning b_NF_isMeaning 2 (some .boolean) { frames := 0, cells := 0, slots := 0, locals := 0 } [.ref o0, .int p0] [(o0, .inr (11, [.ref o1, .int 0, .ref o2, .ref o3, .ref o4, .ref o5, .ref o6, .ref o7, .ref o8, .ref o9, .ref o10])), (o2, .inr (3, [.ref u1, .ref u2, .ref u3, .ref u4, .ref u5])), (u2, .inr (4, [.int 0, .ref u21, .int 0, .ref u22, .ref u23, .ref u24]))] (fun r w => r = 0 ∧ w = [(o0, .inr (11, [.ref o1, .int 0, .ref o2, .ref o3, .ref o4, .ref o5, .ref o6, .ref o7, .ref o8, .ref o9, .ref o10])), (o2, .inr (3, [.ref u1, .ref u2, .ref u3, .ref u4, .ref u5])), (u2, .inr (4, [.int 0, .ref u21, .int 0, .ref u22, .ref u23, .ref u24]))]) := by
  refine nz_Ci.mk (by decide) (Nat.le_of_ble_eq_true rfl) ?_
  intro p e s m below meth c A ls C0 hnm hP hD hS hA hX hl
  have C0 : nz_Cx p s m _ meth c b_NF_isMeaning 2 (some .boolean) R_NF D cB cI cJ := C0
  obtain ⟨hx, hb, hr, hml, hown, hts, hlk, hK⟩ := id C0
  have hl : lv_has ls 2 [(0, .ref o0), (1, .int p0)] := hl
  refine lv_iload_n hx hb d_NF_isMeaning_0 rfl (lv_at hl 1 rfl) ?_
  refine lv_if_lt (tgt := 22) hx hb d_NF_isMeaning_1 (by decide) (fun c_1 => ?_) (fun c_1 => ?_)
  · refine lv_iconst (v := 0) hx hb d_NF_isMeaning_22 (by decide +kernel) ?_
    exact nz_retz C0 (by decide +kernel) (hP.sub (ws' := [(o0, .inr (11, [.ref o1, .int 0, .ref o2, .ref o3, .ref o4, .ref o5, .ref o6, .ref o7, .ref o8, .ref o9, .ref o10])), (o2, .inr (3, [.ref u1, .ref u2, .ref u3, .ref u4, .ref u5])), (u2, .inr (4, [.int 0, .ref u21, .int 0, .ref u22, .ref u23, .ref u24]))]) [0, 1, 2] rfl) (hD.sub (ws' := [(o0, .inr (11, [.ref o1, .int 0, .ref o2, .ref o3, .ref o4, .ref o5, .ref o6, .ref o7, .ref o8, .ref o9, .ref o10])), (o2, .inr (3, [.ref u1, .ref u2, .ref u3, .ref u4, .ref u5])), (u2, .inr (4, [.int 0, .ref u21, .int 0, .ref u22, .ref u23, .ref u24]))]) [0, 1, 2] (by decide) rfl) hS ⟨rfl, rfl⟩ d_NF_isMeaning_23
  · refine lv_iload_n hx hb d_NF_isMeaning_4 rfl (lv_at hl 1 rfl) ?_
    refine lv_aload_n hx hb d_NF_isMeaning_5 rfl (lv_at hl 0 rfl) ?_
    refine va_get (D := D) (ci := 11) (v := .ref o2) (C := R_NF) (T := F_NF) (N := 11) hx hb hts i_NF hown hK.1 hP 0 rfl rfl 2 (by decide) (hts _ k_462) (fun _ h9 => h9) rfl d_NF_isMeaning_6 ?_
    refine va_get (D := D) (ci := 3) (v := .ref u2) (C := R_Land) (T := F_Land) (N := 5) hx hb hts i_Land hown hK.1 hP 1 rfl rfl 1 (by decide) (hts _ k_222) (fun _ h9 => h9) rfl d_NF_isMeaning_9 ?_
    refine va_get (D := D) (ci := 4) (v := .int 0) (C := R_Meanings) (T := F_Meanings) (N := 6) hx hb hts i_Meanings hown hK.1 hP 2 rfl rfl 0 (by decide) (hts _ k_94) (fun _ h9 => h9) rfl d_NF_isMeaning_12 ?_
    refine lv_icmp_ge (tgt := 22) hx hb d_NF_isMeaning_15 (by decide) (fun c_2 => ?_) (fun c_2 => ?_)
    · refine lv_iconst (v := 0) hx hb d_NF_isMeaning_22 (by decide +kernel) ?_
      exact nz_retz C0 (by decide +kernel) (hP.sub (ws' := [(o0, .inr (11, [.ref o1, .int 0, .ref o2, .ref o3, .ref o4, .ref o5, .ref o6, .ref o7, .ref o8, .ref o9, .ref o10])), (o2, .inr (3, [.ref u1, .ref u2, .ref u3, .ref u4, .ref u5])), (u2, .inr (4, [.int 0, .ref u21, .int 0, .ref u22, .ref u23, .ref u24]))]) [0, 1, 2] rfl) (hD.sub (ws' := [(o0, .inr (11, [.ref o1, .int 0, .ref o2, .ref o3, .ref o4, .ref o5, .ref o6, .ref o7, .ref o8, .ref o9, .ref o10])), (o2, .inr (3, [.ref u1, .ref u2, .ref u3, .ref u4, .ref u5])), (u2, .inr (4, [.int 0, .ref u21, .int 0, .ref u22, .ref u23, .ref u24]))]) [0, 1, 2] (by decide) rfl) hS ⟨rfl, rfl⟩ d_NF_isMeaning_23
    · exfalso; have z0 : (0 : Int32).toInt = 0 := (by decide +kernel); simp only [Int32.lt_iff_toInt_lt, Int32.le_iff_toInt_le, ← Int32.toInt_inj] at c_1 c_2; omega
set_option maxHeartbeats 4000000 in
set_option maxRecDepth 100000 in
theorem c_NF_isWord (l : Launch) (D : va_G) (cB cI cJ : ClassId) (o0 : Nat) (p0 : Int32) (o1 : Nat) (o2 : Nat) (o3 : Nat) (o4 : Nat) (o5 : Nat) (o6 : Nat) (o7 : Nat) (o8 : Nat) (o9 : Nat) (o10 : Nat) (u1 : Nat) (u2 : Nat) (u3 : Nat) (u4 : Nat) (u5 : Nat) (u31 : Nat) (u32 : Nat) : nz_Ci l D cB cI cJ nz_x0 y_NF_isWord b_NF_isWord 2 (some .boolean) { frames := 0, cells := 0, slots := 0, locals := 0 } [.ref o0, .int p0] [(o0, .inr (11, [.ref o1, .int 0, .ref o2, .ref o3, .ref o4, .ref o5, .ref o6, .ref o7, .ref o8, .ref o9, .ref o10])), (o2, .inr (3, [.ref u1, .ref u2, .ref u3, .ref u4, .ref u5])), (u3, .inr (10, [.int 0, .ref u31, .ref u32]))] (fun r w => r = 0 ∧ w = [(o0, .inr (11, [.ref o1, .int 0, .ref o2, .ref o3, .ref o4, .ref o5, .ref o6, .ref o7, .ref o8, .ref o9, .ref o10])), (o2, .inr (3, [.ref u1, .ref u2, .ref u3, .ref u4, .ref u5])), (u3, .inr (10, [.int 0, .ref u31, .ref u32]))]) := by
  refine nz_Ci.mk (by decide) (Nat.le_of_ble_eq_true rfl) ?_
  intro p e s m below meth c A ls C0 hnm hP hD hS hA hX hl
  have C0 : nz_Cx p s m _ meth c b_NF_isWord 2 (some .boolean) R_NF D cB cI cJ := C0
  obtain ⟨hx, hb, hr, hml, hown, hts, hlk, hK⟩ := id C0
  have hl : lv_has ls 2 [(0, .ref o0), (1, .int p0)] := hl
  refine lv_iload_n hx hb d_NF_isWord_0 rfl (lv_at hl 1 rfl) ?_
  refine lv_if_lt (tgt := 22) hx hb d_NF_isWord_1 (by decide) (fun c_1 => ?_) (fun c_1 => ?_)
  · refine lv_iconst (v := 0) hx hb d_NF_isWord_22 (by decide +kernel) ?_
    exact nz_retz C0 (by decide +kernel) (hP.sub (ws' := [(o0, .inr (11, [.ref o1, .int 0, .ref o2, .ref o3, .ref o4, .ref o5, .ref o6, .ref o7, .ref o8, .ref o9, .ref o10])), (o2, .inr (3, [.ref u1, .ref u2, .ref u3, .ref u4, .ref u5])), (u3, .inr (10, [.int 0, .ref u31, .ref u32]))]) [0, 1, 2] rfl) (hD.sub (ws' := [(o0, .inr (11, [.ref o1, .int 0, .ref o2, .ref o3, .ref o4, .ref o5, .ref o6, .ref o7, .ref o8, .ref o9, .ref o10])), (o2, .inr (3, [.ref u1, .ref u2, .ref u3, .ref u4, .ref u5])), (u3, .inr (10, [.int 0, .ref u31, .ref u32]))]) [0, 1, 2] (by decide) rfl) hS ⟨rfl, rfl⟩ d_NF_isWord_23
  · refine lv_iload_n hx hb d_NF_isWord_4 rfl (lv_at hl 1 rfl) ?_
    refine lv_aload_n hx hb d_NF_isWord_5 rfl (lv_at hl 0 rfl) ?_
    refine va_get (D := D) (ci := 11) (v := .ref o2) (C := R_NF) (T := F_NF) (N := 11) hx hb hts i_NF hown hK.1 hP 0 rfl rfl 2 (by decide) (hts _ k_462) (fun _ h9 => h9) rfl d_NF_isWord_6 ?_
    refine va_get (D := D) (ci := 3) (v := .ref u3) (C := R_Land) (T := F_Land) (N := 5) hx hb hts i_Land hown hK.1 hP 1 rfl rfl 2 (by decide) (hts _ k_225) (fun _ h9 => h9) rfl d_NF_isWord_9 ?_
    refine va_get (D := D) (ci := 10) (v := .int 0) (C := R_Words) (T := F_Words) (N := 3) hx hb hts i_Words hown hK.1 hP 2 rfl rfl 0 (by decide) (hts _ k_132) (fun _ h9 => h9) rfl d_NF_isWord_12 ?_
    refine lv_icmp_ge (tgt := 22) hx hb d_NF_isWord_15 (by decide) (fun c_2 => ?_) (fun c_2 => ?_)
    · refine lv_iconst (v := 0) hx hb d_NF_isWord_22 (by decide +kernel) ?_
      exact nz_retz C0 (by decide +kernel) (hP.sub (ws' := [(o0, .inr (11, [.ref o1, .int 0, .ref o2, .ref o3, .ref o4, .ref o5, .ref o6, .ref o7, .ref o8, .ref o9, .ref o10])), (o2, .inr (3, [.ref u1, .ref u2, .ref u3, .ref u4, .ref u5])), (u3, .inr (10, [.int 0, .ref u31, .ref u32]))]) [0, 1, 2] rfl) (hD.sub (ws' := [(o0, .inr (11, [.ref o1, .int 0, .ref o2, .ref o3, .ref o4, .ref o5, .ref o6, .ref o7, .ref o8, .ref o9, .ref o10])), (o2, .inr (3, [.ref u1, .ref u2, .ref u3, .ref u4, .ref u5])), (u3, .inr (10, [.int 0, .ref u31, .ref u32]))]) [0, 1, 2] (by decide) rfl) hS ⟨rfl, rfl⟩ d_NF_isWord_23
    · exfalso; have z0 : (0 : Int32).toInt = 0 := (by decide +kernel); simp only [Int32.lt_iff_toInt_lt, Int32.le_iff_toInt_le, ← Int32.toInt_inj] at c_1 c_2; omega
set_option maxHeartbeats 4000000 in
set_option maxRecDepth 100000 in
theorem c_NF_isPerson (l : Launch) (D : va_G) (cB cI cJ : ClassId) (o0 : Nat) (p0 : Int32) (o1 : Nat) (o2 : Nat) (o3 : Nat) (o4 : Nat) (o5 : Nat) (o6 : Nat) (o7 : Nat) (o8 : Nat) (o9 : Nat) (o10 : Nat) (u1 : Nat) (u2 : Nat) (u3 : Nat) (u4 : Nat) (u5 : Nat) (u41 : Nat) (u42 : Nat) (u43 : Nat) (u44 : Nat) (u45 : Nat) (u46 : Nat) (u47 : Nat) (u48 : Nat) (u49 : Nat) : nz_Ci l D cB cI cJ nz_x0 y_NF_isPerson b_NF_isPerson 2 (some .boolean) { frames := 0, cells := 0, slots := 0, locals := 0 } [.ref o0, .int p0] [(o0, .inr (11, [.ref o1, .int 0, .ref o2, .ref o3, .ref o4, .ref o5, .ref o6, .ref o7, .ref o8, .ref o9, .ref o10])), (o2, .inr (3, [.ref u1, .ref u2, .ref u3, .ref u4, .ref u5])), (u4, .inr (5, [.int 0, .int 0, .ref u41, .ref u42, .ref u43, .ref u44, .ref u45, .ref u46, .ref u47, .ref u48, .ref u49]))] (fun r w => r = 0 ∧ w = [(o0, .inr (11, [.ref o1, .int 0, .ref o2, .ref o3, .ref o4, .ref o5, .ref o6, .ref o7, .ref o8, .ref o9, .ref o10])), (o2, .inr (3, [.ref u1, .ref u2, .ref u3, .ref u4, .ref u5])), (u4, .inr (5, [.int 0, .int 0, .ref u41, .ref u42, .ref u43, .ref u44, .ref u45, .ref u46, .ref u47, .ref u48, .ref u49]))]) := by
  refine nz_Ci.mk (by decide) (Nat.le_of_ble_eq_true rfl) ?_
  intro p e s m below meth c A ls C0 hnm hP hD hS hA hX hl
  have C0 : nz_Cx p s m _ meth c b_NF_isPerson 2 (some .boolean) R_NF D cB cI cJ := C0
  obtain ⟨hx, hb, hr, hml, hown, hts, hlk, hK⟩ := id C0
  have hl : lv_has ls 2 [(0, .ref o0), (1, .int p0)] := hl
  refine lv_iload_n hx hb d_NF_isPerson_0 rfl (lv_at hl 1 rfl) ?_
  refine lv_if_lt (tgt := 22) hx hb d_NF_isPerson_1 (by decide) (fun c_1 => ?_) (fun c_1 => ?_)
  · refine lv_iconst (v := 0) hx hb d_NF_isPerson_22 (by decide +kernel) ?_
    exact nz_retz C0 (by decide +kernel) (hP.sub (ws' := [(o0, .inr (11, [.ref o1, .int 0, .ref o2, .ref o3, .ref o4, .ref o5, .ref o6, .ref o7, .ref o8, .ref o9, .ref o10])), (o2, .inr (3, [.ref u1, .ref u2, .ref u3, .ref u4, .ref u5])), (u4, .inr (5, [.int 0, .int 0, .ref u41, .ref u42, .ref u43, .ref u44, .ref u45, .ref u46, .ref u47, .ref u48, .ref u49]))]) [0, 1, 2] rfl) (hD.sub (ws' := [(o0, .inr (11, [.ref o1, .int 0, .ref o2, .ref o3, .ref o4, .ref o5, .ref o6, .ref o7, .ref o8, .ref o9, .ref o10])), (o2, .inr (3, [.ref u1, .ref u2, .ref u3, .ref u4, .ref u5])), (u4, .inr (5, [.int 0, .int 0, .ref u41, .ref u42, .ref u43, .ref u44, .ref u45, .ref u46, .ref u47, .ref u48, .ref u49]))]) [0, 1, 2] (by decide) rfl) hS ⟨rfl, rfl⟩ d_NF_isPerson_23
  · refine lv_iload_n hx hb d_NF_isPerson_4 rfl (lv_at hl 1 rfl) ?_
    refine lv_aload_n hx hb d_NF_isPerson_5 rfl (lv_at hl 0 rfl) ?_
    refine va_get (D := D) (ci := 11) (v := .ref o2) (C := R_NF) (T := F_NF) (N := 11) hx hb hts i_NF hown hK.1 hP 0 rfl rfl 2 (by decide) (hts _ k_462) (fun _ h9 => h9) rfl d_NF_isPerson_6 ?_
    refine va_get (D := D) (ci := 3) (v := .ref u4) (C := R_Land) (T := F_Land) (N := 5) hx hb hts i_Land hown hK.1 hP 1 rfl rfl 3 (by decide) (hts _ k_231) (fun _ h9 => h9) rfl d_NF_isPerson_9 ?_
    refine va_get (D := D) (ci := 5) (v := .int 0) (C := R_Persons) (T := F_Persons) (N := 11) hx hb hts i_Persons hown hK.1 hP 2 rfl rfl 0 (by decide) (hts _ k_158) (fun _ h9 => h9) rfl d_NF_isPerson_12 ?_
    refine lv_icmp_ge (tgt := 22) hx hb d_NF_isPerson_15 (by decide) (fun c_2 => ?_) (fun c_2 => ?_)
    · refine lv_iconst (v := 0) hx hb d_NF_isPerson_22 (by decide +kernel) ?_
      exact nz_retz C0 (by decide +kernel) (hP.sub (ws' := [(o0, .inr (11, [.ref o1, .int 0, .ref o2, .ref o3, .ref o4, .ref o5, .ref o6, .ref o7, .ref o8, .ref o9, .ref o10])), (o2, .inr (3, [.ref u1, .ref u2, .ref u3, .ref u4, .ref u5])), (u4, .inr (5, [.int 0, .int 0, .ref u41, .ref u42, .ref u43, .ref u44, .ref u45, .ref u46, .ref u47, .ref u48, .ref u49]))]) [0, 1, 2] rfl) (hD.sub (ws' := [(o0, .inr (11, [.ref o1, .int 0, .ref o2, .ref o3, .ref o4, .ref o5, .ref o6, .ref o7, .ref o8, .ref o9, .ref o10])), (o2, .inr (3, [.ref u1, .ref u2, .ref u3, .ref u4, .ref u5])), (u4, .inr (5, [.int 0, .int 0, .ref u41, .ref u42, .ref u43, .ref u44, .ref u45, .ref u46, .ref u47, .ref u48, .ref u49]))]) [0, 1, 2] (by decide) rfl) hS ⟨rfl, rfl⟩ d_NF_isPerson_23
    · exfalso; have z0 : (0 : Int32).toInt = 0 := (by decide +kernel); simp only [Int32.lt_iff_toInt_lt, Int32.le_iff_toInt_le, ← Int32.toInt_inj] at c_1 c_2; omega
set_option maxHeartbeats 4000000 in
set_option maxRecDepth 100000 in
theorem c_NF_canSpeak (l : Launch) (D : va_G) (cB cI cJ : ClassId) (o0 : Nat) (p0 : Int32) (p1 : Int32) (p2 : Int32) (p3 : Int32) (o1 : Nat) (o2 : Nat) (o3 : Nat) (o4 : Nat) (o5 : Nat) (o6 : Nat) (o7 : Nat) (o8 : Nat) (o9 : Nat) (o10 : Nat) (u1 : Nat) (u2 : Nat) (u3 : Nat) (u4 : Nat) (u5 : Nat) (u41 : Nat) (u42 : Nat) (u43 : Nat) (u44 : Nat) (u45 : Nat) (u46 : Nat) (u47 : Nat) (u48 : Nat) (u49 : Nat) : nz_Ci l D cB cI cJ nz_x0 y_NF_canSpeak b_NF_canSpeak 5 (some .boolean) { frames := 1, cells := 0, slots := 0, locals := 21 } [.ref o0, .int p0, .int p1, .int p2, .int p3] [(o0, .inr (11, [.ref o1, .int 0, .ref o2, .ref o3, .ref o4, .ref o5, .ref o6, .ref o7, .ref o8, .ref o9, .ref o10])), (o2, .inr (3, [.ref u1, .ref u2, .ref u3, .ref u4, .ref u5])), (u4, .inr (5, [.int 0, .int 0, .ref u41, .ref u42, .ref u43, .ref u44, .ref u45, .ref u46, .ref u47, .ref u48, .ref u49]))] (fun r w => r = 0 ∧ w = [(o0, .inr (11, [.ref o1, .int 0, .ref o2, .ref o3, .ref o4, .ref o5, .ref o6, .ref o7, .ref o8, .ref o9, .ref o10])), (o2, .inr (3, [.ref u1, .ref u2, .ref u3, .ref u4, .ref u5])), (u4, .inr (5, [.int 0, .int 0, .ref u41, .ref u42, .ref u43, .ref u44, .ref u45, .ref u46, .ref u47, .ref u48, .ref u49]))]) := by
  refine nz_Ci.mk (by decide) (Nat.le_of_ble_eq_true rfl) ?_
  intro p e s m below meth c A ls C0 hnm hP hD hS hA hX hl
  have C0 : nz_Cx p s m _ meth c b_NF_canSpeak 5 (some .boolean) R_NF D cB cI cJ := C0
  obtain ⟨hx, hb, hr, hml, hown, hts, hlk, hK⟩ := id C0
  have hl : lv_has ls 5 [(0, .ref o0), (1, .int p0), (2, .int p1), (3, .int p2), (4, .int p3)] := hl
  refine lv_aload_n hx hb d_NF_canSpeak_0 rfl (lv_at hl 0 rfl) ?_
  refine lv_iload_n hx hb d_NF_canSpeak_1 rfl (lv_at hl 1 rfl) ?_
  refine nz_calVi (As := [.int p0]) (rest := []) C0 (c_NF_isPerson l D cB cI cJ o0 p0 o1 o2 o3 o4 o5 o6 o7 o8 o9 o10 u1 u2 u3 u4 u5 u41 u42 u43 u44 u45 u46 u47 u48 u49) g_NF_104 rfl nz_xb0 (by decide) hl.1 hP hD hS hA [0, 1, 2] [] rfl (wr := []) rfl (by decide) (by decide) (by decide) rfl rfl (fun _ _ _ => trivial) rfl (by decide) d_NF_canSpeak_2 (by decide) (fun r_1 u H locs h_2 hP hD hS => ?_)
  obtain ⟨h_2_r, rfl⟩ := h_2
  have hP : va_P D nz_cl [(o0, .inr (11, [.ref o1, .int 0, .ref o2, .ref o3, .ref o4, .ref o5, .ref o6, .ref o7, .ref o8, .ref o9, .ref o10])), (o2, .inr (3, [.ref u1, .ref u2, .ref u3, .ref u4, .ref u5])), (u4, .inr (5, [.int 0, .int 0, .ref u41, .ref u42, .ref u43, .ref u44, .ref u45, .ref u46, .ref u47, .ref u48, .ref u49]))] H := hP
  have hD : va_D A [(o0, .inr (11, [.ref o1, .int 0, .ref o2, .ref o3, .ref o4, .ref o5, .ref o6, .ref o7, .ref o8, .ref o9, .ref o10])), (o2, .inr (3, [.ref u1, .ref u2, .ref u3, .ref u4, .ref u5])), (u4, .inr (5, [.int 0, .int 0, .ref u41, .ref u42, .ref u43, .ref u44, .ref u45, .ref u46, .ref u47, .ref u48, .ref u49]))] := hD
  subst h_2_r
  refine lv_if_eq (tgt := 28) hx hb d_NF_canSpeak_5 (by decide) (fun c_3 => ?_) (fun c_3 => absurd (by decide +kernel) c_3)
  refine lv_iconst (v := 0) hx hb d_NF_canSpeak_28 (by decide +kernel) ?_
  exact nz_retz C0 (by decide +kernel) (hP.sub (ws' := [(o0, .inr (11, [.ref o1, .int 0, .ref o2, .ref o3, .ref o4, .ref o5, .ref o6, .ref o7, .ref o8, .ref o9, .ref o10])), (o2, .inr (3, [.ref u1, .ref u2, .ref u3, .ref u4, .ref u5])), (u4, .inr (5, [.int 0, .int 0, .ref u41, .ref u42, .ref u43, .ref u44, .ref u45, .ref u46, .ref u47, .ref u48, .ref u49]))]) [0, 1, 2] rfl) (hD.sub (ws' := [(o0, .inr (11, [.ref o1, .int 0, .ref o2, .ref o3, .ref o4, .ref o5, .ref o6, .ref o7, .ref o8, .ref o9, .ref o10])), (o2, .inr (3, [.ref u1, .ref u2, .ref u3, .ref u4, .ref u5])), (u4, .inr (5, [.int 0, .int 0, .ref u41, .ref u42, .ref u43, .ref u44, .ref u45, .ref u46, .ref u47, .ref u48, .ref u49]))]) [0, 1, 2] (by decide) rfl) hS ⟨rfl, rfl⟩ d_NF_canSpeak_29
set_option maxHeartbeats 4000000 in
set_option maxRecDepth 100000 in
theorem c_NF_die (l : Launch) (D : va_G) (cB cI cJ : ClassId) (o0 : Nat) (p0 : Int32) (p1 : Int32) (o1 : Nat) (o2 : Nat) (o3 : Nat) (o4 : Nat) (o5 : Nat) (o6 : Nat) (o7 : Nat) (o8 : Nat) (o9 : Nat) (o10 : Nat) (u1 : Nat) (u2 : Nat) (u3 : Nat) (u4 : Nat) (u5 : Nat) (u41 : Nat) (u42 : Nat) (u43 : Nat) (u44 : Nat) (u45 : Nat) (u46 : Nat) (u47 : Nat) (u48 : Nat) (u49 : Nat) : nz_Ci l D cB cI cJ nz_x0 y_NF_die b_NF_die 3 (some .int) { frames := 1, cells := 0, slots := 0, locals := 21 } [.ref o0, .int p0, .int p1] [(o0, .inr (11, [.ref o1, .int 0, .ref o2, .ref o3, .ref o4, .ref o5, .ref o6, .ref o7, .ref o8, .ref o9, .ref o10])), (o2, .inr (3, [.ref u1, .ref u2, .ref u3, .ref u4, .ref u5])), (u4, .inr (5, [.int 0, .int 0, .ref u41, .ref u42, .ref u43, .ref u44, .ref u45, .ref u46, .ref u47, .ref u48, .ref u49]))] (fun r w => r = (-1) ∧ w = [(o0, .inr (11, [.ref o1, .int 0, .ref o2, .ref o3, .ref o4, .ref o5, .ref o6, .ref o7, .ref o8, .ref o9, .ref o10])), (o2, .inr (3, [.ref u1, .ref u2, .ref u3, .ref u4, .ref u5])), (u4, .inr (5, [.int 0, .int 0, .ref u41, .ref u42, .ref u43, .ref u44, .ref u45, .ref u46, .ref u47, .ref u48, .ref u49]))]) := by
  refine nz_Ci.mk (by decide) (Nat.le_of_ble_eq_true rfl) ?_
  intro p e s m below meth c A ls C0 hnm hP hD hS hA hX hl
  have C0 : nz_Cx p s m _ meth c b_NF_die 3 (some .int) R_NF D cB cI cJ := C0
  obtain ⟨hx, hb, hr, hml, hown, hts, hlk, hK⟩ := id C0
  have hl : lv_has ls 3 [(0, .ref o0), (1, .int p0), (2, .int p1)] := hl
  refine lv_aload_n hx hb d_NF_die_0 rfl (lv_at hl 0 rfl) ?_
  refine lv_iload_n hx hb d_NF_die_1 rfl (lv_at hl 1 rfl) ?_
  refine nz_calVi (As := [.int p0]) (rest := []) C0 (c_NF_isPerson l D cB cI cJ o0 p0 o1 o2 o3 o4 o5 o6 o7 o8 o9 o10 u1 u2 u3 u4 u5 u41 u42 u43 u44 u45 u46 u47 u48 u49) g_NF_104 rfl nz_xb0 (by decide) hl.1 hP hD hS hA [0, 1, 2] [] rfl (wr := []) rfl (by decide) (by decide) (by decide) rfl rfl (fun _ _ _ => trivial) rfl (by decide) d_NF_die_2 (by decide) (fun r_1 u H locs h_2 hP hD hS => ?_)
  obtain ⟨h_2_r, rfl⟩ := h_2
  have hP : va_P D nz_cl [(o0, .inr (11, [.ref o1, .int 0, .ref o2, .ref o3, .ref o4, .ref o5, .ref o6, .ref o7, .ref o8, .ref o9, .ref o10])), (o2, .inr (3, [.ref u1, .ref u2, .ref u3, .ref u4, .ref u5])), (u4, .inr (5, [.int 0, .int 0, .ref u41, .ref u42, .ref u43, .ref u44, .ref u45, .ref u46, .ref u47, .ref u48, .ref u49]))] H := hP
  have hD : va_D A [(o0, .inr (11, [.ref o1, .int 0, .ref o2, .ref o3, .ref o4, .ref o5, .ref o6, .ref o7, .ref o8, .ref o9, .ref o10])), (o2, .inr (3, [.ref u1, .ref u2, .ref u3, .ref u4, .ref u5])), (u4, .inr (5, [.int 0, .int 0, .ref u41, .ref u42, .ref u43, .ref u44, .ref u45, .ref u46, .ref u47, .ref u48, .ref u49]))] := hD
  subst h_2_r
  refine lv_if_eq (tgt := 31) hx hb d_NF_die_5 (by decide) (fun c_3 => ?_) (fun c_3 => absurd (by decide +kernel) c_3)
  refine lv_iconst (v := (-1)) hx hb d_NF_die_31 (by decide +kernel) ?_
  exact nz_reti C0 (hP.sub (ws' := [(o0, .inr (11, [.ref o1, .int 0, .ref o2, .ref o3, .ref o4, .ref o5, .ref o6, .ref o7, .ref o8, .ref o9, .ref o10])), (o2, .inr (3, [.ref u1, .ref u2, .ref u3, .ref u4, .ref u5])), (u4, .inr (5, [.int 0, .int 0, .ref u41, .ref u42, .ref u43, .ref u44, .ref u45, .ref u46, .ref u47, .ref u48, .ref u49]))]) [0, 1, 2] rfl) (hD.sub (ws' := [(o0, .inr (11, [.ref o1, .int 0, .ref o2, .ref o3, .ref o4, .ref o5, .ref o6, .ref o7, .ref o8, .ref o9, .ref o10])), (o2, .inr (3, [.ref u1, .ref u2, .ref u3, .ref u4, .ref u5])), (u4, .inr (5, [.int 0, .int 0, .ref u41, .ref u42, .ref u43, .ref u44, .ref u45, .ref u46, .ref u47, .ref u48, .ref u49]))]) [0, 1, 2] (by decide) rfl) hS ⟨rfl, rfl⟩ d_NF_die_32
set_option maxHeartbeats 4000000 in
set_option maxRecDepth 100000 in
theorem c_NF_alive (l : Launch) (D : va_G) (cB cI cJ : ClassId) (o0 : Nat) (p0 : Int32) (p1 : Int32) (p2 : Int32) (o1 : Nat) (o2 : Nat) (o3 : Nat) (o4 : Nat) (o5 : Nat) (o6 : Nat) (o7 : Nat) (o8 : Nat) (o9 : Nat) (o10 : Nat) (u1 : Nat) (u2 : Nat) (u3 : Nat) (u4 : Nat) (u5 : Nat) (u41 : Nat) (u42 : Nat) (u43 : Nat) (u44 : Nat) (u45 : Nat) (u46 : Nat) (u47 : Nat) (u48 : Nat) (u49 : Nat) : nz_Ci l D cB cI cJ nz_x0 y_NF_alive b_NF_alive 4 (some .int) { frames := 1, cells := 0, slots := 0, locals := 21 } [.ref o0, .int p0, .int p1, .int p2] [(o0, .inr (11, [.ref o1, .int 0, .ref o2, .ref o3, .ref o4, .ref o5, .ref o6, .ref o7, .ref o8, .ref o9, .ref o10])), (o2, .inr (3, [.ref u1, .ref u2, .ref u3, .ref u4, .ref u5])), (u4, .inr (5, [.int 0, .int 0, .ref u41, .ref u42, .ref u43, .ref u44, .ref u45, .ref u46, .ref u47, .ref u48, .ref u49]))] (fun r w => r = (-1) ∧ w = [(o0, .inr (11, [.ref o1, .int 0, .ref o2, .ref o3, .ref o4, .ref o5, .ref o6, .ref o7, .ref o8, .ref o9, .ref o10])), (o2, .inr (3, [.ref u1, .ref u2, .ref u3, .ref u4, .ref u5])), (u4, .inr (5, [.int 0, .int 0, .ref u41, .ref u42, .ref u43, .ref u44, .ref u45, .ref u46, .ref u47, .ref u48, .ref u49]))]) := by
  refine nz_Ci.mk (by decide) (Nat.le_of_ble_eq_true rfl) ?_
  intro p e s m below meth c A ls C0 hnm hP hD hS hA hX hl
  have C0 : nz_Cx p s m _ meth c b_NF_alive 4 (some .int) R_NF D cB cI cJ := C0
  obtain ⟨hx, hb, hr, hml, hown, hts, hlk, hK⟩ := id C0
  have hl : lv_has ls 4 [(0, .ref o0), (1, .int p0), (2, .int p1), (3, .int p2)] := hl
  refine lv_aload_n hx hb d_NF_alive_0 rfl (lv_at hl 0 rfl) ?_
  refine lv_iload_n hx hb d_NF_alive_1 rfl (lv_at hl 1 rfl) ?_
  refine nz_calVi (As := [.int p0]) (rest := []) C0 (c_NF_isPerson l D cB cI cJ o0 p0 o1 o2 o3 o4 o5 o6 o7 o8 o9 o10 u1 u2 u3 u4 u5 u41 u42 u43 u44 u45 u46 u47 u48 u49) g_NF_104 rfl nz_xb0 (by decide) hl.1 hP hD hS hA [0, 1, 2] [] rfl (wr := []) rfl (by decide) (by decide) (by decide) rfl rfl (fun _ _ _ => trivial) rfl (by decide) d_NF_alive_2 (by decide) (fun r_1 u H locs h_2 hP hD hS => ?_)
  obtain ⟨h_2_r, rfl⟩ := h_2
  have hP : va_P D nz_cl [(o0, .inr (11, [.ref o1, .int 0, .ref o2, .ref o3, .ref o4, .ref o5, .ref o6, .ref o7, .ref o8, .ref o9, .ref o10])), (o2, .inr (3, [.ref u1, .ref u2, .ref u3, .ref u4, .ref u5])), (u4, .inr (5, [.int 0, .int 0, .ref u41, .ref u42, .ref u43, .ref u44, .ref u45, .ref u46, .ref u47, .ref u48, .ref u49]))] H := hP
  have hD : va_D A [(o0, .inr (11, [.ref o1, .int 0, .ref o2, .ref o3, .ref o4, .ref o5, .ref o6, .ref o7, .ref o8, .ref o9, .ref o10])), (o2, .inr (3, [.ref u1, .ref u2, .ref u3, .ref u4, .ref u5])), (u4, .inr (5, [.int 0, .int 0, .ref u41, .ref u42, .ref u43, .ref u44, .ref u45, .ref u46, .ref u47, .ref u48, .ref u49]))] := hD
  subst h_2_r
  refine lv_if_eq (tgt := 15) hx hb d_NF_alive_5 (by decide) (fun c_3 => ?_) (fun c_3 => absurd (by decide +kernel) c_3)
  refine lv_iconst (v := (-1)) hx hb d_NF_alive_15 (by decide +kernel) ?_
  exact nz_reti C0 (hP.sub (ws' := [(o0, .inr (11, [.ref o1, .int 0, .ref o2, .ref o3, .ref o4, .ref o5, .ref o6, .ref o7, .ref o8, .ref o9, .ref o10])), (o2, .inr (3, [.ref u1, .ref u2, .ref u3, .ref u4, .ref u5])), (u4, .inr (5, [.int 0, .int 0, .ref u41, .ref u42, .ref u43, .ref u44, .ref u45, .ref u46, .ref u47, .ref u48, .ref u49]))]) [0, 1, 2] rfl) (hD.sub (ws' := [(o0, .inr (11, [.ref o1, .int 0, .ref o2, .ref o3, .ref o4, .ref o5, .ref o6, .ref o7, .ref o8, .ref o9, .ref o10])), (o2, .inr (3, [.ref u1, .ref u2, .ref u3, .ref u4, .ref u5])), (u4, .inr (5, [.int 0, .int 0, .ref u41, .ref u42, .ref u43, .ref u44, .ref u45, .ref u46, .ref u47, .ref u48, .ref u49]))]) [0, 1, 2] (by decide) rfl) hS ⟨rfl, rfl⟩ d_NF_alive_16
set_option maxHeartbeats 4000000 in
set_option maxRecDepth 100000 in
theorem c_NF_apart (l : Launch) (D : va_G) (cB cI cJ : ClassId) (o0 : Nat) (p0 : Int32) (p1 : Int32) (o1 : Nat) (o2 : Nat) (o3 : Nat) (o4 : Nat) (o5 : Nat) (o6 : Nat) (o7 : Nat) (o8 : Nat) (o9 : Nat) (o10 : Nat) (u1 : Nat) (u2 : Nat) (u3 : Nat) (u4 : Nat) (u5 : Nat) (u31 : Nat) (u32 : Nat) : nz_Ci l D cB cI cJ nz_x0 y_NF_apart b_NF_apart 3 (some .int) { frames := 1, cells := 0, slots := 0, locals := 21 } [.ref o0, .int p0, .int p1] [(o0, .inr (11, [.ref o1, .int 0, .ref o2, .ref o3, .ref o4, .ref o5, .ref o6, .ref o7, .ref o8, .ref o9, .ref o10])), (o2, .inr (3, [.ref u1, .ref u2, .ref u3, .ref u4, .ref u5])), (u3, .inr (10, [.int 0, .ref u31, .ref u32]))] (fun r w => r = (-1) ∧ w = [(o0, .inr (11, [.ref o1, .int 0, .ref o2, .ref o3, .ref o4, .ref o5, .ref o6, .ref o7, .ref o8, .ref o9, .ref o10])), (o2, .inr (3, [.ref u1, .ref u2, .ref u3, .ref u4, .ref u5])), (u3, .inr (10, [.int 0, .ref u31, .ref u32]))]) := by
  refine nz_Ci.mk (by decide) (Nat.le_of_ble_eq_true rfl) ?_
  intro p e s m below meth c A ls C0 hnm hP hD hS hA hX hl
  have C0 : nz_Cx p s m _ meth c b_NF_apart 3 (some .int) R_NF D cB cI cJ := C0
  obtain ⟨hx, hb, hr, hml, hown, hts, hlk, hK⟩ := id C0
  have hl : lv_has ls 3 [(0, .ref o0), (1, .int p0), (2, .int p1)] := hl
  refine lv_aload_n hx hb d_NF_apart_0 rfl (lv_at hl 0 rfl) ?_
  refine lv_iload_n hx hb d_NF_apart_1 rfl (lv_at hl 1 rfl) ?_
  refine nz_calVi (As := [.int p0]) (rest := []) C0 (c_NF_isWord l D cB cI cJ o0 p0 o1 o2 o3 o4 o5 o6 o7 o8 o9 o10 u1 u2 u3 u4 u5 u31 u32) g_NF_138 rfl nz_xb0 (by decide) hl.1 hP hD hS hA [0, 1, 2] [] rfl (wr := []) rfl (by decide) (by decide) (by decide) rfl rfl (fun _ _ _ => trivial) rfl (by decide) d_NF_apart_2 (by decide) (fun r_1 u H locs h_2 hP hD hS => ?_)
  obtain ⟨h_2_r, rfl⟩ := h_2
  have hP : va_P D nz_cl [(o0, .inr (11, [.ref o1, .int 0, .ref o2, .ref o3, .ref o4, .ref o5, .ref o6, .ref o7, .ref o8, .ref o9, .ref o10])), (o2, .inr (3, [.ref u1, .ref u2, .ref u3, .ref u4, .ref u5])), (u3, .inr (10, [.int 0, .ref u31, .ref u32]))] H := hP
  have hD : va_D A [(o0, .inr (11, [.ref o1, .int 0, .ref o2, .ref o3, .ref o4, .ref o5, .ref o6, .ref o7, .ref o8, .ref o9, .ref o10])), (o2, .inr (3, [.ref u1, .ref u2, .ref u3, .ref u4, .ref u5])), (u3, .inr (10, [.int 0, .ref u31, .ref u32]))] := hD
  subst h_2_r
  refine lv_if_eq (tgt := 16) hx hb d_NF_apart_5 (by decide) (fun c_3 => ?_) (fun c_3 => absurd (by decide +kernel) c_3)
  refine lv_iconst (v := (-1)) hx hb d_NF_apart_16 (by decide +kernel) ?_
  exact nz_reti C0 (hP.sub (ws' := [(o0, .inr (11, [.ref o1, .int 0, .ref o2, .ref o3, .ref o4, .ref o5, .ref o6, .ref o7, .ref o8, .ref o9, .ref o10])), (o2, .inr (3, [.ref u1, .ref u2, .ref u3, .ref u4, .ref u5])), (u3, .inr (10, [.int 0, .ref u31, .ref u32]))]) [0, 1, 2] rfl) (hD.sub (ws' := [(o0, .inr (11, [.ref o1, .int 0, .ref o2, .ref o3, .ref o4, .ref o5, .ref o6, .ref o7, .ref o8, .ref o9, .ref o10])), (o2, .inr (3, [.ref u1, .ref u2, .ref u3, .ref u4, .ref u5])), (u3, .inr (10, [.int 0, .ref u31, .ref u32]))]) [0, 1, 2] (by decide) rfl) hS ⟨rfl, rfl⟩ d_NF_apart_17
set_option maxHeartbeats 4000000 in
set_option maxRecDepth 100000 in
theorem c_NF_near (l : Launch) (D : va_G) (cB cI cJ : ClassId) (o0 : Nat) (p0 : Int32) (p1 : Int32) (o1 : Nat) (o2 : Nat) (o3 : Nat) (o4 : Nat) (o5 : Nat) (o6 : Nat) (o7 : Nat) (o8 : Nat) (o9 : Nat) (o10 : Nat) (u1 : Nat) (u2 : Nat) (u3 : Nat) (u4 : Nat) (u5 : Nat) (u41 : Nat) (u42 : Nat) (u43 : Nat) (u44 : Nat) (u45 : Nat) (u46 : Nat) (u47 : Nat) (u48 : Nat) (u49 : Nat) : nz_Ci l D cB cI cJ nz_x0 y_NF_near b_NF_near 3 (some .int) { frames := 1, cells := 0, slots := 0, locals := 21 } [.ref o0, .int p0, .int p1] [(o0, .inr (11, [.ref o1, .int 0, .ref o2, .ref o3, .ref o4, .ref o5, .ref o6, .ref o7, .ref o8, .ref o9, .ref o10])), (o2, .inr (3, [.ref u1, .ref u2, .ref u3, .ref u4, .ref u5])), (u4, .inr (5, [.int 0, .int 0, .ref u41, .ref u42, .ref u43, .ref u44, .ref u45, .ref u46, .ref u47, .ref u48, .ref u49]))] (fun r w => r = (-1) ∧ w = [(o0, .inr (11, [.ref o1, .int 0, .ref o2, .ref o3, .ref o4, .ref o5, .ref o6, .ref o7, .ref o8, .ref o9, .ref o10])), (o2, .inr (3, [.ref u1, .ref u2, .ref u3, .ref u4, .ref u5])), (u4, .inr (5, [.int 0, .int 0, .ref u41, .ref u42, .ref u43, .ref u44, .ref u45, .ref u46, .ref u47, .ref u48, .ref u49]))]) := by
  refine nz_Ci.mk (by decide) (Nat.le_of_ble_eq_true rfl) ?_
  intro p e s m below meth c A ls C0 hnm hP hD hS hA hX hl
  have C0 : nz_Cx p s m _ meth c b_NF_near 3 (some .int) R_NF D cB cI cJ := C0
  obtain ⟨hx, hb, hr, hml, hown, hts, hlk, hK⟩ := id C0
  have hl : lv_has ls 3 [(0, .ref o0), (1, .int p0), (2, .int p1)] := hl
  refine lv_aload_n hx hb d_NF_near_0 rfl (lv_at hl 0 rfl) ?_
  refine lv_iload_n hx hb d_NF_near_1 rfl (lv_at hl 1 rfl) ?_
  refine nz_calVi (As := [.int p0]) (rest := []) C0 (c_NF_isPerson l D cB cI cJ o0 p0 o1 o2 o3 o4 o5 o6 o7 o8 o9 o10 u1 u2 u3 u4 u5 u41 u42 u43 u44 u45 u46 u47 u48 u49) g_NF_104 rfl nz_xb0 (by decide) hl.1 hP hD hS hA [0, 1, 2] [] rfl (wr := []) rfl (by decide) (by decide) (by decide) rfl rfl (fun _ _ _ => trivial) rfl (by decide) d_NF_near_2 (by decide) (fun r_1 u H locs h_2 hP hD hS => ?_)
  obtain ⟨h_2_r, rfl⟩ := h_2
  have hP : va_P D nz_cl [(o0, .inr (11, [.ref o1, .int 0, .ref o2, .ref o3, .ref o4, .ref o5, .ref o6, .ref o7, .ref o8, .ref o9, .ref o10])), (o2, .inr (3, [.ref u1, .ref u2, .ref u3, .ref u4, .ref u5])), (u4, .inr (5, [.int 0, .int 0, .ref u41, .ref u42, .ref u43, .ref u44, .ref u45, .ref u46, .ref u47, .ref u48, .ref u49]))] H := hP
  have hD : va_D A [(o0, .inr (11, [.ref o1, .int 0, .ref o2, .ref o3, .ref o4, .ref o5, .ref o6, .ref o7, .ref o8, .ref o9, .ref o10])), (o2, .inr (3, [.ref u1, .ref u2, .ref u3, .ref u4, .ref u5])), (u4, .inr (5, [.int 0, .int 0, .ref u41, .ref u42, .ref u43, .ref u44, .ref u45, .ref u46, .ref u47, .ref u48, .ref u49]))] := hD
  subst h_2_r
  refine lv_if_eq (tgt := 16) hx hb d_NF_near_5 (by decide) (fun c_3 => ?_) (fun c_3 => absurd (by decide +kernel) c_3)
  refine lv_iconst (v := (-1)) hx hb d_NF_near_16 (by decide +kernel) ?_
  exact nz_reti C0 (hP.sub (ws' := [(o0, .inr (11, [.ref o1, .int 0, .ref o2, .ref o3, .ref o4, .ref o5, .ref o6, .ref o7, .ref o8, .ref o9, .ref o10])), (o2, .inr (3, [.ref u1, .ref u2, .ref u3, .ref u4, .ref u5])), (u4, .inr (5, [.int 0, .int 0, .ref u41, .ref u42, .ref u43, .ref u44, .ref u45, .ref u46, .ref u47, .ref u48, .ref u49]))]) [0, 1, 2] rfl) (hD.sub (ws' := [(o0, .inr (11, [.ref o1, .int 0, .ref o2, .ref o3, .ref o4, .ref o5, .ref o6, .ref o7, .ref o8, .ref o9, .ref o10])), (o2, .inr (3, [.ref u1, .ref u2, .ref u3, .ref u4, .ref u5])), (u4, .inr (5, [.int 0, .int 0, .ref u41, .ref u42, .ref u43, .ref u44, .ref u45, .ref u46, .ref u47, .ref u48, .ref u49]))]) [0, 1, 2] (by decide) rfl) hS ⟨rfl, rfl⟩ d_NF_near_17
set_option maxHeartbeats 4000000 in
set_option maxRecDepth 100000 in
theorem c_NF_may (l : Launch) (D : va_G) (cB cI cJ : ClassId) (o0 : Nat) (p0 : Int32) (p1 : Int32) (p2 : Int32) (p3 : Int32) (p4 : Int32) (o1 : Nat) (o2 : Nat) (o3 : Nat) (o4 : Nat) (o5 : Nat) (o6 : Nat) (o7 : Nat) (o8 : Nat) (o9 : Nat) (o10 : Nat) (u1 : Nat) (u2 : Nat) (u3 : Nat) (u4 : Nat) (u5 : Nat) (u31 : Nat) (u32 : Nat) : nz_Ci l D cB cI cJ nz_x0 y_NF_may b_NF_may 6 (some .int) { frames := 1, cells := 0, slots := 0, locals := 21 } [.ref o0, .int p0, .int p1, .int p2, .int p3, .int p4] [(o0, .inr (11, [.ref o1, .int 0, .ref o2, .ref o3, .ref o4, .ref o5, .ref o6, .ref o7, .ref o8, .ref o9, .ref o10])), (o2, .inr (3, [.ref u1, .ref u2, .ref u3, .ref u4, .ref u5])), (u3, .inr (10, [.int 0, .ref u31, .ref u32]))] (fun r w => r = (-1) ∧ w = [(o0, .inr (11, [.ref o1, .int 0, .ref o2, .ref o3, .ref o4, .ref o5, .ref o6, .ref o7, .ref o8, .ref o9, .ref o10])), (o2, .inr (3, [.ref u1, .ref u2, .ref u3, .ref u4, .ref u5])), (u3, .inr (10, [.int 0, .ref u31, .ref u32]))]) := by
  refine nz_Ci.mk (by decide) (Nat.le_of_ble_eq_true rfl) ?_
  intro p e s m below meth c A ls C0 hnm hP hD hS hA hX hl
  have C0 : nz_Cx p s m _ meth c b_NF_may 6 (some .int) R_NF D cB cI cJ := C0
  obtain ⟨hx, hb, hr, hml, hown, hts, hlk, hK⟩ := id C0
  have hl : lv_has ls 6 [(0, .ref o0), (1, .int p0), (2, .int p1), (3, .int p2), (4, .int p3), (5, .int p4)] := hl
  refine lv_aload_n hx hb d_NF_may_0 rfl (lv_at hl 0 rfl) ?_
  refine lv_iload_n hx hb d_NF_may_1 rfl (lv_at hl 3 rfl) ?_
  refine nz_calVi (As := [.int p2]) (rest := []) C0 (c_NF_isWord l D cB cI cJ o0 p2 o1 o2 o3 o4 o5 o6 o7 o8 o9 o10 u1 u2 u3 u4 u5 u31 u32) g_NF_138 rfl nz_xb0 (by decide) hl.1 hP hD hS hA [0, 1, 2] [] rfl (wr := []) rfl (by decide) (by decide) (by decide) rfl rfl (fun _ _ _ => trivial) rfl (by decide) d_NF_may_2 (by decide) (fun r_1 u H locs h_2 hP hD hS => ?_)
  obtain ⟨h_2_r, rfl⟩ := h_2
  have hP : va_P D nz_cl [(o0, .inr (11, [.ref o1, .int 0, .ref o2, .ref o3, .ref o4, .ref o5, .ref o6, .ref o7, .ref o8, .ref o9, .ref o10])), (o2, .inr (3, [.ref u1, .ref u2, .ref u3, .ref u4, .ref u5])), (u3, .inr (10, [.int 0, .ref u31, .ref u32]))] H := hP
  have hD : va_D A [(o0, .inr (11, [.ref o1, .int 0, .ref o2, .ref o3, .ref o4, .ref o5, .ref o6, .ref o7, .ref o8, .ref o9, .ref o10])), (o2, .inr (3, [.ref u1, .ref u2, .ref u3, .ref u4, .ref u5])), (u3, .inr (10, [.int 0, .ref u31, .ref u32]))] := hD
  subst h_2_r
  refine lv_if_eq (tgt := 21) hx hb d_NF_may_5 (by decide) (fun c_3 => ?_) (fun c_3 => absurd (by decide +kernel) c_3)
  refine lv_iconst (v := (-1)) hx hb d_NF_may_21 (by decide +kernel) ?_
  exact nz_reti C0 (hP.sub (ws' := [(o0, .inr (11, [.ref o1, .int 0, .ref o2, .ref o3, .ref o4, .ref o5, .ref o6, .ref o7, .ref o8, .ref o9, .ref o10])), (o2, .inr (3, [.ref u1, .ref u2, .ref u3, .ref u4, .ref u5])), (u3, .inr (10, [.int 0, .ref u31, .ref u32]))]) [0, 1, 2] rfl) (hD.sub (ws' := [(o0, .inr (11, [.ref o1, .int 0, .ref o2, .ref o3, .ref o4, .ref o5, .ref o6, .ref o7, .ref o8, .ref o9, .ref o10])), (o2, .inr (3, [.ref u1, .ref u2, .ref u3, .ref u4, .ref u5])), (u3, .inr (10, [.int 0, .ref u31, .ref u32]))]) [0, 1, 2] (by decide) rfl) hS ⟨rfl, rfl⟩ d_NF_may_22
set_option maxHeartbeats 4000000 in
set_option maxRecDepth 100000 in
theorem c_NF_instead (l : Launch) (D : va_G) (cB cI cJ : ClassId) (o0 : Nat) (p0 : Int32) (p1 : Int32) (p2 : Int32) (p3 : Int32) (p4 : Int32) (o1 : Nat) (o2 : Nat) (o3 : Nat) (o4 : Nat) (o5 : Nat) (o6 : Nat) (o7 : Nat) (o8 : Nat) (o9 : Nat) (o10 : Nat) (u1 : Nat) (u2 : Nat) (u3 : Nat) (u4 : Nat) (u5 : Nat) (u21 : Nat) (u22 : Nat) (u23 : Nat) (u24 : Nat) : nz_Ci l D cB cI cJ nz_x0 y_NF_instead b_NF_instead 6 (some .int) { frames := 1, cells := 0, slots := 0, locals := 21 } [.ref o0, .int p0, .int p1, .int p2, .int p3, .int p4] [(o0, .inr (11, [.ref o1, .int 0, .ref o2, .ref o3, .ref o4, .ref o5, .ref o6, .ref o7, .ref o8, .ref o9, .ref o10])), (o2, .inr (3, [.ref u1, .ref u2, .ref u3, .ref u4, .ref u5])), (u2, .inr (4, [.int 0, .ref u21, .int 0, .ref u22, .ref u23, .ref u24]))] (fun r w => r = (-1) ∧ w = [(o0, .inr (11, [.ref o1, .int 0, .ref o2, .ref o3, .ref o4, .ref o5, .ref o6, .ref o7, .ref o8, .ref o9, .ref o10])), (o2, .inr (3, [.ref u1, .ref u2, .ref u3, .ref u4, .ref u5])), (u2, .inr (4, [.int 0, .ref u21, .int 0, .ref u22, .ref u23, .ref u24]))]) := by
  refine nz_Ci.mk (by decide) (Nat.le_of_ble_eq_true rfl) ?_
  intro p e s m below meth c A ls C0 hnm hP hD hS hA hX hl
  have C0 : nz_Cx p s m _ meth c b_NF_instead 6 (some .int) R_NF D cB cI cJ := C0
  obtain ⟨hx, hb, hr, hml, hown, hts, hlk, hK⟩ := id C0
  have hl : lv_has ls 6 [(0, .ref o0), (1, .int p0), (2, .int p1), (3, .int p2), (4, .int p3), (5, .int p4)] := hl
  refine lv_aload_n hx hb d_NF_instead_0 rfl (lv_at hl 0 rfl) ?_
  refine lv_iload_n hx hb d_NF_instead_1 rfl (lv_at hl 3 rfl) ?_
  refine nz_calVi (As := [.int p2]) (rest := []) C0 (c_NF_isMeaning l D cB cI cJ o0 p2 o1 o2 o3 o4 o5 o6 o7 o8 o9 o10 u1 u2 u3 u4 u5 u21 u22 u23 u24) g_NF_176 rfl nz_xb0 (by decide) hl.1 hP hD hS hA [0, 1, 2] [] rfl (wr := []) rfl (by decide) (by decide) (by decide) rfl rfl (fun _ _ _ => trivial) rfl (by decide) d_NF_instead_2 (by decide) (fun r_1 u H locs h_2 hP hD hS => ?_)
  obtain ⟨h_2_r, rfl⟩ := h_2
  have hP : va_P D nz_cl [(o0, .inr (11, [.ref o1, .int 0, .ref o2, .ref o3, .ref o4, .ref o5, .ref o6, .ref o7, .ref o8, .ref o9, .ref o10])), (o2, .inr (3, [.ref u1, .ref u2, .ref u3, .ref u4, .ref u5])), (u2, .inr (4, [.int 0, .ref u21, .int 0, .ref u22, .ref u23, .ref u24]))] H := hP
  have hD : va_D A [(o0, .inr (11, [.ref o1, .int 0, .ref o2, .ref o3, .ref o4, .ref o5, .ref o6, .ref o7, .ref o8, .ref o9, .ref o10])), (o2, .inr (3, [.ref u1, .ref u2, .ref u3, .ref u4, .ref u5])), (u2, .inr (4, [.int 0, .ref u21, .int 0, .ref u22, .ref u23, .ref u24]))] := hD
  subst h_2_r
  refine lv_if_eq (tgt := 21) hx hb d_NF_instead_5 (by decide) (fun c_3 => ?_) (fun c_3 => absurd (by decide +kernel) c_3)
  refine lv_iconst (v := (-1)) hx hb d_NF_instead_21 (by decide +kernel) ?_
  exact nz_reti C0 (hP.sub (ws' := [(o0, .inr (11, [.ref o1, .int 0, .ref o2, .ref o3, .ref o4, .ref o5, .ref o6, .ref o7, .ref o8, .ref o9, .ref o10])), (o2, .inr (3, [.ref u1, .ref u2, .ref u3, .ref u4, .ref u5])), (u2, .inr (4, [.int 0, .ref u21, .int 0, .ref u22, .ref u23, .ref u24]))]) [0, 1, 2] rfl) (hD.sub (ws' := [(o0, .inr (11, [.ref o1, .int 0, .ref o2, .ref o3, .ref o4, .ref o5, .ref o6, .ref o7, .ref o8, .ref o9, .ref o10])), (o2, .inr (3, [.ref u1, .ref u2, .ref u3, .ref u4, .ref u5])), (u2, .inr (4, [.int 0, .ref u21, .int 0, .ref u22, .ref u23, .ref u24]))]) [0, 1, 2] (by decide) rfl) hS ⟨rfl, rfl⟩ d_NF_instead_22
set_option maxHeartbeats 4000000 in
set_option maxRecDepth 100000 in
theorem c_NF_cost (l : Launch) (D : va_G) (cB cI cJ : ClassId) (o0 : Nat) (p0 : Int32) (p1 : Int32) (p2 : Int32) (p3 : Int32) (p4 : Int32) (o1 : Nat) (o2 : Nat) (o3 : Nat) (o4 : Nat) (o5 : Nat) (o6 : Nat) (o7 : Nat) (o8 : Nat) (o9 : Nat) (o10 : Nat) (u1 : Nat) (u2 : Nat) (u3 : Nat) (u4 : Nat) (u5 : Nat) (u21 : Nat) (u22 : Nat) (u23 : Nat) (u24 : Nat) : nz_Ci l D cB cI cJ nz_x0 y_NF_cost b_NF_cost 6 (some .int) { frames := 1, cells := 0, slots := 0, locals := 21 } [.ref o0, .int p0, .int p1, .int p2, .int p3, .int p4] [(o0, .inr (11, [.ref o1, .int 0, .ref o2, .ref o3, .ref o4, .ref o5, .ref o6, .ref o7, .ref o8, .ref o9, .ref o10])), (o2, .inr (3, [.ref u1, .ref u2, .ref u3, .ref u4, .ref u5])), (u2, .inr (4, [.int 0, .ref u21, .int 0, .ref u22, .ref u23, .ref u24]))] (fun r w => r = (-1) ∧ w = [(o0, .inr (11, [.ref o1, .int 0, .ref o2, .ref o3, .ref o4, .ref o5, .ref o6, .ref o7, .ref o8, .ref o9, .ref o10])), (o2, .inr (3, [.ref u1, .ref u2, .ref u3, .ref u4, .ref u5])), (u2, .inr (4, [.int 0, .ref u21, .int 0, .ref u22, .ref u23, .ref u24]))]) := by
  refine nz_Ci.mk (by decide) (Nat.le_of_ble_eq_true rfl) ?_
  intro p e s m below meth c A ls C0 hnm hP hD hS hA hX hl
  have C0 : nz_Cx p s m _ meth c b_NF_cost 6 (some .int) R_NF D cB cI cJ := C0
  obtain ⟨hx, hb, hr, hml, hown, hts, hlk, hK⟩ := id C0
  have hl : lv_has ls 6 [(0, .ref o0), (1, .int p0), (2, .int p1), (3, .int p2), (4, .int p3), (5, .int p4)] := hl
  refine lv_aload_n hx hb d_NF_cost_0 rfl (lv_at hl 0 rfl) ?_
  refine lv_iload_n hx hb d_NF_cost_1 rfl (lv_at hl 3 rfl) ?_
  refine nz_calVi (As := [.int p2]) (rest := []) C0 (c_NF_isMeaning l D cB cI cJ o0 p2 o1 o2 o3 o4 o5 o6 o7 o8 o9 o10 u1 u2 u3 u4 u5 u21 u22 u23 u24) g_NF_176 rfl nz_xb0 (by decide) hl.1 hP hD hS hA [0, 1, 2] [] rfl (wr := []) rfl (by decide) (by decide) (by decide) rfl rfl (fun _ _ _ => trivial) rfl (by decide) d_NF_cost_2 (by decide) (fun r_1 u H locs h_2 hP hD hS => ?_)
  obtain ⟨h_2_r, rfl⟩ := h_2
  have hP : va_P D nz_cl [(o0, .inr (11, [.ref o1, .int 0, .ref o2, .ref o3, .ref o4, .ref o5, .ref o6, .ref o7, .ref o8, .ref o9, .ref o10])), (o2, .inr (3, [.ref u1, .ref u2, .ref u3, .ref u4, .ref u5])), (u2, .inr (4, [.int 0, .ref u21, .int 0, .ref u22, .ref u23, .ref u24]))] H := hP
  have hD : va_D A [(o0, .inr (11, [.ref o1, .int 0, .ref o2, .ref o3, .ref o4, .ref o5, .ref o6, .ref o7, .ref o8, .ref o9, .ref o10])), (o2, .inr (3, [.ref u1, .ref u2, .ref u3, .ref u4, .ref u5])), (u2, .inr (4, [.int 0, .ref u21, .int 0, .ref u22, .ref u23, .ref u24]))] := hD
  subst h_2_r
  refine lv_if_eq (tgt := 21) hx hb d_NF_cost_5 (by decide) (fun c_3 => ?_) (fun c_3 => absurd (by decide +kernel) c_3)
  refine lv_iconst (v := (-1)) hx hb d_NF_cost_21 (by decide +kernel) ?_
  exact nz_reti C0 (hP.sub (ws' := [(o0, .inr (11, [.ref o1, .int 0, .ref o2, .ref o3, .ref o4, .ref o5, .ref o6, .ref o7, .ref o8, .ref o9, .ref o10])), (o2, .inr (3, [.ref u1, .ref u2, .ref u3, .ref u4, .ref u5])), (u2, .inr (4, [.int 0, .ref u21, .int 0, .ref u22, .ref u23, .ref u24]))]) [0, 1, 2] rfl) (hD.sub (ws' := [(o0, .inr (11, [.ref o1, .int 0, .ref o2, .ref o3, .ref o4, .ref o5, .ref o6, .ref o7, .ref o8, .ref o9, .ref o10])), (o2, .inr (3, [.ref u1, .ref u2, .ref u3, .ref u4, .ref u5])), (u2, .inr (4, [.int 0, .ref u21, .int 0, .ref u22, .ref u23, .ref u24]))]) [0, 1, 2] (by decide) rfl) hS ⟨rfl, rfl⟩ d_NF_cost_22
set_option maxHeartbeats 4000000 in
set_option maxRecDepth 100000 in
theorem c_NF_grasp (l : Launch) (D : va_G) (cB cI cJ : ClassId) (o0 : Nat) (p0 : Int32) (p1 : Int32) (p2 : Int32) (p3 : Int32) (o1 : Nat) (o2 : Nat) (o3 : Nat) (o4 : Nat) (o5 : Nat) (o6 : Nat) (o7 : Nat) (o8 : Nat) (o9 : Nat) (o10 : Nat) (u1 : Nat) (u2 : Nat) (u3 : Nat) (u4 : Nat) (u5 : Nat) (u41 : Nat) (u42 : Nat) (u43 : Nat) (u44 : Nat) (u45 : Nat) (u46 : Nat) (u47 : Nat) (u48 : Nat) (u49 : Nat) : nz_Ci l D cB cI cJ nz_x0 y_NF_grasp b_NF_grasp 5 (some .int) { frames := 2, cells := 0, slots := 0, locals := 45 } [.ref o0, .int p0, .int p1, .int p2, .int p3] [(o0, .inr (11, [.ref o1, .int 0, .ref o2, .ref o3, .ref o4, .ref o5, .ref o6, .ref o7, .ref o8, .ref o9, .ref o10])), (o2, .inr (3, [.ref u1, .ref u2, .ref u3, .ref u4, .ref u5])), (u4, .inr (5, [.int 0, .int 0, .ref u41, .ref u42, .ref u43, .ref u44, .ref u45, .ref u46, .ref u47, .ref u48, .ref u49]))] (fun r w => r = (-1) ∧ w = [(o0, .inr (11, [.ref o1, .int 0, .ref o2, .ref o3, .ref o4, .ref o5, .ref o6, .ref o7, .ref o8, .ref o9, .ref o10])), (o2, .inr (3, [.ref u1, .ref u2, .ref u3, .ref u4, .ref u5])), (u4, .inr (5, [.int 0, .int 0, .ref u41, .ref u42, .ref u43, .ref u44, .ref u45, .ref u46, .ref u47, .ref u48, .ref u49]))]) := by
  refine nz_Ci.mk (by decide) (Nat.le_of_ble_eq_true rfl) ?_
  intro p e s m below meth c A ls C0 hnm hP hD hS hA hX hl
  have C0 : nz_Cx p s m _ meth c b_NF_grasp 5 (some .int) R_NF D cB cI cJ := C0
  obtain ⟨hx, hb, hr, hml, hown, hts, hlk, hK⟩ := id C0
  have hl : lv_has ls 5 [(0, .ref o0), (1, .int p0), (2, .int p1), (3, .int p2), (4, .int p3)] := hl
  refine lv_aload_n hx hb d_NF_grasp_0 rfl (lv_at hl 0 rfl) ?_
  refine lv_iload_n hx hb d_NF_grasp_1 rfl (lv_at hl 1 rfl) ?_
  refine lv_iload_n hx hb d_NF_grasp_2 rfl (lv_at hl 2 rfl) ?_
  refine lv_iload_n hx hb d_NF_grasp_3 rfl (lv_at hl 3 rfl) ?_
  refine lv_iload hx hb d_NF_grasp_4 (lv_at hl 4 rfl) ?_
  refine nz_calVi (As := [.int p0, .int p1, .int p2, .int p3]) (rest := []) C0 (c_NF_canSpeak l D cB cI cJ o0 p0 p1 p2 p3 o1 o2 o3 o4 o5 o6 o7 o8 o9 o10 u1 u2 u3 u4 u5 u41 u42 u43 u44 u45 u46 u47 u48 u49) g_NF_161 rfl nz_xb0 (by decide) hl.1 hP hD hS hA [0, 1, 2] [] rfl (wr := []) rfl (by decide) (by decide) (by decide) rfl rfl (fun _ _ _ => trivial) rfl (by decide) d_NF_grasp_6 (by decide) (fun r_1 u H locs h_2 hP hD hS => ?_)
  obtain ⟨h_2_r, rfl⟩ := h_2
  have hP : va_P D nz_cl [(o0, .inr (11, [.ref o1, .int 0, .ref o2, .ref o3, .ref o4, .ref o5, .ref o6, .ref o7, .ref o8, .ref o9, .ref o10])), (o2, .inr (3, [.ref u1, .ref u2, .ref u3, .ref u4, .ref u5])), (u4, .inr (5, [.int 0, .int 0, .ref u41, .ref u42, .ref u43, .ref u44, .ref u45, .ref u46, .ref u47, .ref u48, .ref u49]))] H := hP
  have hD : va_D A [(o0, .inr (11, [.ref o1, .int 0, .ref o2, .ref o3, .ref o4, .ref o5, .ref o6, .ref o7, .ref o8, .ref o9, .ref o10])), (o2, .inr (3, [.ref u1, .ref u2, .ref u3, .ref u4, .ref u5])), (u4, .inr (5, [.int 0, .int 0, .ref u41, .ref u42, .ref u43, .ref u44, .ref u45, .ref u46, .ref u47, .ref u48, .ref u49]))] := hD
  subst h_2_r
  refine lv_if_ne (tgt := 14) hx hb d_NF_grasp_9 (by decide) (fun c_3 => absurd c_3 (by decide +kernel)) (fun c_3 => ?_)
  refine lv_iconst (v := (-1)) hx hb d_NF_grasp_12 (by decide +kernel) ?_
  exact nz_reti C0 (hP.sub (ws' := [(o0, .inr (11, [.ref o1, .int 0, .ref o2, .ref o3, .ref o4, .ref o5, .ref o6, .ref o7, .ref o8, .ref o9, .ref o10])), (o2, .inr (3, [.ref u1, .ref u2, .ref u3, .ref u4, .ref u5])), (u4, .inr (5, [.int 0, .int 0, .ref u41, .ref u42, .ref u43, .ref u44, .ref u45, .ref u46, .ref u47, .ref u48, .ref u49]))]) [0, 1, 2] rfl) (hD.sub (ws' := [(o0, .inr (11, [.ref o1, .int 0, .ref o2, .ref o3, .ref o4, .ref o5, .ref o6, .ref o7, .ref o8, .ref o9, .ref o10])), (o2, .inr (3, [.ref u1, .ref u2, .ref u3, .ref u4, .ref u5])), (u4, .inr (5, [.int 0, .int 0, .ref u41, .ref u42, .ref u43, .ref u44, .ref u45, .ref u46, .ref u47, .ref u48, .ref u49]))]) [0, 1, 2] (by decide) rfl) hS ⟨rfl, rfl⟩ d_NF_grasp_13
set_option maxHeartbeats 4000000 in
set_option maxRecDepth 100000 in
theorem c_NF_today (l : Launch) (D : va_G) (cB cI cJ : ClassId) (o0 : Nat) (p0 : Int32) (p1 : Int32) (p2 : Int32) (p3 : Int32) (o1 : Nat) (o2 : Nat) (o3 : Nat) (o4 : Nat) (o5 : Nat) (o6 : Nat) (o7 : Nat) (o8 : Nat) (o9 : Nat) (o10 : Nat) (u1 : Nat) (u2 : Nat) (u3 : Nat) (u4 : Nat) (u5 : Nat) (u11 : Nat) (u12 : Nat) (u13 : Nat) (u14 : Nat) (u15 : Nat) (u16 : Nat) (u17 : Nat) : nz_Ci l D cB cI cJ nz_x0 y_NF_today b_NF_today 5 (some .int) { frames := 1, cells := 0, slots := 0, locals := 21 } [.ref o0, .int p0, .int p1, .int p2, .int p3] [(o0, .inr (11, [.ref o1, .int 0, .ref o2, .ref o3, .ref o4, .ref o5, .ref o6, .ref o7, .ref o8, .ref o9, .ref o10])), (o2, .inr (3, [.ref u1, .ref u2, .ref u3, .ref u4, .ref u5])), (u1, .inr (6, [.int 0, .ref u11, .ref u12, .ref u13, .ref u14, .ref u15, .ref u16, .ref u17]))] (fun r w => r = (-1) ∧ w = [(o0, .inr (11, [.ref o1, .int 0, .ref o2, .ref o3, .ref o4, .ref o5, .ref o6, .ref o7, .ref o8, .ref o9, .ref o10])), (o2, .inr (3, [.ref u1, .ref u2, .ref u3, .ref u4, .ref u5])), (u1, .inr (6, [.int 0, .ref u11, .ref u12, .ref u13, .ref u14, .ref u15, .ref u16, .ref u17]))]) := by
  refine nz_Ci.mk (by decide) (Nat.le_of_ble_eq_true rfl) ?_
  intro p e s m below meth c A ls C0 hnm hP hD hS hA hX hl
  have C0 : nz_Cx p s m _ meth c b_NF_today 5 (some .int) R_NF D cB cI cJ := C0
  obtain ⟨hx, hb, hr, hml, hown, hts, hlk, hK⟩ := id C0
  have hl : lv_has ls 5 [(0, .ref o0), (1, .int p0), (2, .int p1), (3, .int p2), (4, .int p3)] := hl
  refine lv_aload_n hx hb d_NF_today_0 rfl (lv_at hl 0 rfl) ?_
  refine lv_iload_n hx hb d_NF_today_1 rfl (lv_at hl 1 rfl) ?_
  refine nz_calVi (As := [.int p0]) (rest := []) C0 (c_NF_isPlace l D cB cI cJ o0 p0 o1 o2 o3 o4 o5 o6 o7 o8 o9 o10 u1 u2 u3 u4 u5 u11 u12 u13 u14 u15 u16 u17) g_NF_190 rfl nz_xb0 (by decide) hl.1 hP hD hS hA [0, 1, 2] [] rfl (wr := []) rfl (by decide) (by decide) (by decide) rfl rfl (fun _ _ _ => trivial) rfl (by decide) d_NF_today_2 (by decide) (fun r_1 u H locs h_2 hP hD hS => ?_)
  obtain ⟨h_2_r, rfl⟩ := h_2
  have hP : va_P D nz_cl [(o0, .inr (11, [.ref o1, .int 0, .ref o2, .ref o3, .ref o4, .ref o5, .ref o6, .ref o7, .ref o8, .ref o9, .ref o10])), (o2, .inr (3, [.ref u1, .ref u2, .ref u3, .ref u4, .ref u5])), (u1, .inr (6, [.int 0, .ref u11, .ref u12, .ref u13, .ref u14, .ref u15, .ref u16, .ref u17]))] H := hP
  have hD : va_D A [(o0, .inr (11, [.ref o1, .int 0, .ref o2, .ref o3, .ref o4, .ref o5, .ref o6, .ref o7, .ref o8, .ref o9, .ref o10])), (o2, .inr (3, [.ref u1, .ref u2, .ref u3, .ref u4, .ref u5])), (u1, .inr (6, [.int 0, .ref u11, .ref u12, .ref u13, .ref u14, .ref u15, .ref u16, .ref u17]))] := hD
  subst h_2_r
  refine lv_if_eq (tgt := 23) hx hb d_NF_today_5 (by decide) (fun c_3 => ?_) (fun c_3 => absurd (by decide +kernel) c_3)
  refine lv_iconst (v := (-1)) hx hb d_NF_today_23 (by decide +kernel) ?_
  exact nz_reti C0 (hP.sub (ws' := [(o0, .inr (11, [.ref o1, .int 0, .ref o2, .ref o3, .ref o4, .ref o5, .ref o6, .ref o7, .ref o8, .ref o9, .ref o10])), (o2, .inr (3, [.ref u1, .ref u2, .ref u3, .ref u4, .ref u5])), (u1, .inr (6, [.int 0, .ref u11, .ref u12, .ref u13, .ref u14, .ref u15, .ref u16, .ref u17]))]) [0, 1, 2] rfl) (hD.sub (ws' := [(o0, .inr (11, [.ref o1, .int 0, .ref o2, .ref o3, .ref o4, .ref o5, .ref o6, .ref o7, .ref o8, .ref o9, .ref o10])), (o2, .inr (3, [.ref u1, .ref u2, .ref u3, .ref u4, .ref u5])), (u1, .inr (6, [.int 0, .ref u11, .ref u12, .ref u13, .ref u14, .ref u15, .ref u16, .ref u17]))]) [0, 1, 2] (by decide) rfl) hS ⟨rfl, rfl⟩ d_NF_today_24
set_option maxHeartbeats 4000000 in
set_option maxRecDepth 100000 in
theorem c_NF_parted (l : Launch) (D : va_G) (cB cI cJ : ClassId) (o0 : Nat) (p0 : Int32) (p1 : Int32) (p2 : Int32) (p3 : Int32) (o1 : Nat) (o2 : Nat) (o3 : Nat) (o4 : Nat) (o5 : Nat) (o6 : Nat) (o7 : Nat) (o8 : Nat) (o9 : Nat) (o10 : Nat) (u1 : Nat) (u2 : Nat) (u3 : Nat) (u4 : Nat) (u5 : Nat) (u11 : Nat) (u12 : Nat) (u13 : Nat) (u14 : Nat) (u15 : Nat) (u16 : Nat) (u17 : Nat) : nz_Ci l D cB cI cJ nz_x0 y_NF_parted b_NF_parted 11 (some .int) { frames := 1, cells := 0, slots := 0, locals := 21 } [.ref o0, .int p0, .int p1, .int p2, .int p3] [(o0, .inr (11, [.ref o1, .int 0, .ref o2, .ref o3, .ref o4, .ref o5, .ref o6, .ref o7, .ref o8, .ref o9, .ref o10])), (o2, .inr (3, [.ref u1, .ref u2, .ref u3, .ref u4, .ref u5])), (u1, .inr (6, [.int 0, .ref u11, .ref u12, .ref u13, .ref u14, .ref u15, .ref u16, .ref u17]))] (fun r w => r = (-1) ∧ w = [(o0, .inr (11, [.ref o1, .int 0, .ref o2, .ref o3, .ref o4, .ref o5, .ref o6, .ref o7, .ref o8, .ref o9, .ref o10])), (o2, .inr (3, [.ref u1, .ref u2, .ref u3, .ref u4, .ref u5])), (u1, .inr (6, [.int 0, .ref u11, .ref u12, .ref u13, .ref u14, .ref u15, .ref u16, .ref u17]))]) := by
  refine nz_Ci.mk (by decide) (Nat.le_of_ble_eq_true rfl) ?_
  intro p e s m below meth c A ls C0 hnm hP hD hS hA hX hl
  have C0 : nz_Cx p s m _ meth c b_NF_parted 11 (some .int) R_NF D cB cI cJ := C0
  obtain ⟨hx, hb, hr, hml, hown, hts, hlk, hK⟩ := id C0
  have hl : lv_has ls 11 [(0, .ref o0), (1, .int p0), (2, .int p1), (3, .int p2), (4, .int p3)] := hl
  refine lv_aload_n hx hb d_NF_parted_0 rfl (lv_at hl 0 rfl) ?_
  refine lv_iload_n hx hb d_NF_parted_1 rfl (lv_at hl 1 rfl) ?_
  refine nz_calVi (As := [.int p0]) (rest := []) C0 (c_NF_isPlace l D cB cI cJ o0 p0 o1 o2 o3 o4 o5 o6 o7 o8 o9 o10 u1 u2 u3 u4 u5 u11 u12 u13 u14 u15 u16 u17) g_NF_190 rfl nz_xb0 (by decide) hl.1 hP hD hS hA [0, 1, 2] [] rfl (wr := []) rfl (by decide) (by decide) (by decide) rfl rfl (fun _ _ _ => trivial) rfl (by decide) d_NF_parted_2 (by decide) (fun r_1 u H locs h_2 hP hD hS => ?_)
  obtain ⟨h_2_r, rfl⟩ := h_2
  have hP : va_P D nz_cl [(o0, .inr (11, [.ref o1, .int 0, .ref o2, .ref o3, .ref o4, .ref o5, .ref o6, .ref o7, .ref o8, .ref o9, .ref o10])), (o2, .inr (3, [.ref u1, .ref u2, .ref u3, .ref u4, .ref u5])), (u1, .inr (6, [.int 0, .ref u11, .ref u12, .ref u13, .ref u14, .ref u15, .ref u16, .ref u17]))] H := hP
  have hD : va_D A [(o0, .inr (11, [.ref o1, .int 0, .ref o2, .ref o3, .ref o4, .ref o5, .ref o6, .ref o7, .ref o8, .ref o9, .ref o10])), (o2, .inr (3, [.ref u1, .ref u2, .ref u3, .ref u4, .ref u5])), (u1, .inr (6, [.int 0, .ref u11, .ref u12, .ref u13, .ref u14, .ref u15, .ref u16, .ref u17]))] := hD
  subst h_2_r
  refine lv_if_eq (tgt := 23) hx hb d_NF_parted_5 (by decide) (fun c_3 => ?_) (fun c_3 => absurd (by decide +kernel) c_3)
  refine lv_iconst (v := (-1)) hx hb d_NF_parted_23 (by decide +kernel) ?_
  exact nz_reti C0 (hP.sub (ws' := [(o0, .inr (11, [.ref o1, .int 0, .ref o2, .ref o3, .ref o4, .ref o5, .ref o6, .ref o7, .ref o8, .ref o9, .ref o10])), (o2, .inr (3, [.ref u1, .ref u2, .ref u3, .ref u4, .ref u5])), (u1, .inr (6, [.int 0, .ref u11, .ref u12, .ref u13, .ref u14, .ref u15, .ref u16, .ref u17]))]) [0, 1, 2] rfl) (hD.sub (ws' := [(o0, .inr (11, [.ref o1, .int 0, .ref o2, .ref o3, .ref o4, .ref o5, .ref o6, .ref o7, .ref o8, .ref o9, .ref o10])), (o2, .inr (3, [.ref u1, .ref u2, .ref u3, .ref u4, .ref u5])), (u1, .inr (6, [.int 0, .ref u11, .ref u12, .ref u13, .ref u14, .ref u15, .ref u16, .ref u17]))]) [0, 1, 2] (by decide) rfl) hS ⟨rfl, rfl⟩ d_NF_parted_24
set_option maxHeartbeats 4000000 in
set_option maxRecDepth 100000 in
theorem c_NF_changes (l : Launch) (D : va_G) (cB cI cJ : ClassId) (o0 : Nat) (p0 : Int32) (p1 : Int32) (p2 : Int32) (p3 : Int32) (p4 : Int32) (o1 : Nat) (o2 : Nat) (o3 : Nat) (o4 : Nat) (o5 : Nat) (o6 : Nat) (o7 : Nat) (o8 : Nat) (o9 : Nat) (o10 : Nat) (u1 : Nat) (u2 : Nat) (u3 : Nat) (u4 : Nat) (u5 : Nat) (u11 : Nat) (u12 : Nat) (u13 : Nat) (u14 : Nat) (u15 : Nat) (u16 : Nat) (u17 : Nat) : nz_Ci l D cB cI cJ nz_x0 y_NF_changes b_NF_changes 6 (some .int) { frames := 1, cells := 0, slots := 0, locals := 21 } [.ref o0, .int p0, .int p1, .int p2, .int p3, .int p4] [(o0, .inr (11, [.ref o1, .int 0, .ref o2, .ref o3, .ref o4, .ref o5, .ref o6, .ref o7, .ref o8, .ref o9, .ref o10])), (o2, .inr (3, [.ref u1, .ref u2, .ref u3, .ref u4, .ref u5])), (u1, .inr (6, [.int 0, .ref u11, .ref u12, .ref u13, .ref u14, .ref u15, .ref u16, .ref u17]))] (fun r w => r = (-1) ∧ w = [(o0, .inr (11, [.ref o1, .int 0, .ref o2, .ref o3, .ref o4, .ref o5, .ref o6, .ref o7, .ref o8, .ref o9, .ref o10])), (o2, .inr (3, [.ref u1, .ref u2, .ref u3, .ref u4, .ref u5])), (u1, .inr (6, [.int 0, .ref u11, .ref u12, .ref u13, .ref u14, .ref u15, .ref u16, .ref u17]))]) := by
  refine nz_Ci.mk (by decide) (Nat.le_of_ble_eq_true rfl) ?_
  intro p e s m below meth c A ls C0 hnm hP hD hS hA hX hl
  have C0 : nz_Cx p s m _ meth c b_NF_changes 6 (some .int) R_NF D cB cI cJ := C0
  obtain ⟨hx, hb, hr, hml, hown, hts, hlk, hK⟩ := id C0
  have hl : lv_has ls 6 [(0, .ref o0), (1, .int p0), (2, .int p1), (3, .int p2), (4, .int p3), (5, .int p4)] := hl
  refine lv_aload_n hx hb d_NF_changes_0 rfl (lv_at hl 0 rfl) ?_
  refine lv_iload_n hx hb d_NF_changes_1 rfl (lv_at hl 1 rfl) ?_
  refine nz_calVi (As := [.int p0]) (rest := []) C0 (c_NF_isPlace l D cB cI cJ o0 p0 o1 o2 o3 o4 o5 o6 o7 o8 o9 o10 u1 u2 u3 u4 u5 u11 u12 u13 u14 u15 u16 u17) g_NF_190 rfl nz_xb0 (by decide) hl.1 hP hD hS hA [0, 1, 2] [] rfl (wr := []) rfl (by decide) (by decide) (by decide) rfl rfl (fun _ _ _ => trivial) rfl (by decide) d_NF_changes_2 (by decide) (fun r_1 u H locs h_2 hP hD hS => ?_)
  obtain ⟨h_2_r, rfl⟩ := h_2
  have hP : va_P D nz_cl [(o0, .inr (11, [.ref o1, .int 0, .ref o2, .ref o3, .ref o4, .ref o5, .ref o6, .ref o7, .ref o8, .ref o9, .ref o10])), (o2, .inr (3, [.ref u1, .ref u2, .ref u3, .ref u4, .ref u5])), (u1, .inr (6, [.int 0, .ref u11, .ref u12, .ref u13, .ref u14, .ref u15, .ref u16, .ref u17]))] H := hP
  have hD : va_D A [(o0, .inr (11, [.ref o1, .int 0, .ref o2, .ref o3, .ref o4, .ref o5, .ref o6, .ref o7, .ref o8, .ref o9, .ref o10])), (o2, .inr (3, [.ref u1, .ref u2, .ref u3, .ref u4, .ref u5])), (u1, .inr (6, [.int 0, .ref u11, .ref u12, .ref u13, .ref u14, .ref u15, .ref u16, .ref u17]))] := hD
  subst h_2_r
  refine lv_if_eq (tgt := 25) hx hb d_NF_changes_5 (by decide) (fun c_3 => ?_) (fun c_3 => absurd (by decide +kernel) c_3)
  refine lv_iconst (v := (-1)) hx hb d_NF_changes_25 (by decide +kernel) ?_
  exact nz_reti C0 (hP.sub (ws' := [(o0, .inr (11, [.ref o1, .int 0, .ref o2, .ref o3, .ref o4, .ref o5, .ref o6, .ref o7, .ref o8, .ref o9, .ref o10])), (o2, .inr (3, [.ref u1, .ref u2, .ref u3, .ref u4, .ref u5])), (u1, .inr (6, [.int 0, .ref u11, .ref u12, .ref u13, .ref u14, .ref u15, .ref u16, .ref u17]))]) [0, 1, 2] rfl) (hD.sub (ws' := [(o0, .inr (11, [.ref o1, .int 0, .ref o2, .ref o3, .ref o4, .ref o5, .ref o6, .ref o7, .ref o8, .ref o9, .ref o10])), (o2, .inr (3, [.ref u1, .ref u2, .ref u3, .ref u4, .ref u5])), (u1, .inr (6, [.int 0, .ref u11, .ref u12, .ref u13, .ref u14, .ref u15, .ref u16, .ref u17]))]) [0, 1, 2] (by decide) rfl) hS ⟨rfl, rfl⟩ d_NF_changes_26
set_option maxHeartbeats 4000000 in
set_option maxRecDepth 100000 in
theorem c_NF_renewed (l : Launch) (D : va_G) (cB cI cJ : ClassId) (o0 : Nat) (p0 : Int32) (p1 : Int32) (p2 : Int32) (p3 : Int32) (o1 : Nat) (o2 : Nat) (o3 : Nat) (o4 : Nat) (o5 : Nat) (o6 : Nat) (o7 : Nat) (o8 : Nat) (o9 : Nat) (o10 : Nat) (u1 : Nat) (u2 : Nat) (u3 : Nat) (u4 : Nat) (u5 : Nat) (u11 : Nat) (u12 : Nat) (u13 : Nat) (u14 : Nat) (u15 : Nat) (u16 : Nat) (u17 : Nat) : nz_Ci l D cB cI cJ nz_x0 y_NF_renewed b_NF_renewed 8 (some .int) { frames := 1, cells := 0, slots := 0, locals := 21 } [.ref o0, .int p0, .int p1, .int p2, .int p3] [(o0, .inr (11, [.ref o1, .int 0, .ref o2, .ref o3, .ref o4, .ref o5, .ref o6, .ref o7, .ref o8, .ref o9, .ref o10])), (o2, .inr (3, [.ref u1, .ref u2, .ref u3, .ref u4, .ref u5])), (u1, .inr (6, [.int 0, .ref u11, .ref u12, .ref u13, .ref u14, .ref u15, .ref u16, .ref u17]))] (fun r w => r = (-1) ∧ w = [(o0, .inr (11, [.ref o1, .int 0, .ref o2, .ref o3, .ref o4, .ref o5, .ref o6, .ref o7, .ref o8, .ref o9, .ref o10])), (o2, .inr (3, [.ref u1, .ref u2, .ref u3, .ref u4, .ref u5])), (u1, .inr (6, [.int 0, .ref u11, .ref u12, .ref u13, .ref u14, .ref u15, .ref u16, .ref u17]))]) := by
  refine nz_Ci.mk (by decide) (Nat.le_of_ble_eq_true rfl) ?_
  intro p e s m below meth c A ls C0 hnm hP hD hS hA hX hl
  have C0 : nz_Cx p s m _ meth c b_NF_renewed 8 (some .int) R_NF D cB cI cJ := C0
  obtain ⟨hx, hb, hr, hml, hown, hts, hlk, hK⟩ := id C0
  have hl : lv_has ls 8 [(0, .ref o0), (1, .int p0), (2, .int p1), (3, .int p2), (4, .int p3)] := hl
  refine lv_aload_n hx hb d_NF_renewed_0 rfl (lv_at hl 0 rfl) ?_
  refine lv_iload_n hx hb d_NF_renewed_1 rfl (lv_at hl 1 rfl) ?_
  refine nz_calVi (As := [.int p0]) (rest := []) C0 (c_NF_isPlace l D cB cI cJ o0 p0 o1 o2 o3 o4 o5 o6 o7 o8 o9 o10 u1 u2 u3 u4 u5 u11 u12 u13 u14 u15 u16 u17) g_NF_190 rfl nz_xb0 (by decide) hl.1 hP hD hS hA [0, 1, 2] [] rfl (wr := []) rfl (by decide) (by decide) (by decide) rfl rfl (fun _ _ _ => trivial) rfl (by decide) d_NF_renewed_2 (by decide) (fun r_1 u H locs h_2 hP hD hS => ?_)
  obtain ⟨h_2_r, rfl⟩ := h_2
  have hP : va_P D nz_cl [(o0, .inr (11, [.ref o1, .int 0, .ref o2, .ref o3, .ref o4, .ref o5, .ref o6, .ref o7, .ref o8, .ref o9, .ref o10])), (o2, .inr (3, [.ref u1, .ref u2, .ref u3, .ref u4, .ref u5])), (u1, .inr (6, [.int 0, .ref u11, .ref u12, .ref u13, .ref u14, .ref u15, .ref u16, .ref u17]))] H := hP
  have hD : va_D A [(o0, .inr (11, [.ref o1, .int 0, .ref o2, .ref o3, .ref o4, .ref o5, .ref o6, .ref o7, .ref o8, .ref o9, .ref o10])), (o2, .inr (3, [.ref u1, .ref u2, .ref u3, .ref u4, .ref u5])), (u1, .inr (6, [.int 0, .ref u11, .ref u12, .ref u13, .ref u14, .ref u15, .ref u16, .ref u17]))] := hD
  subst h_2_r
  refine lv_if_eq (tgt := 16) hx hb d_NF_renewed_5 (by decide) (fun c_3 => ?_) (fun c_3 => absurd (by decide +kernel) c_3)
  refine lv_iconst (v := (-1)) hx hb d_NF_renewed_16 (by decide +kernel) ?_
  exact nz_reti C0 (hP.sub (ws' := [(o0, .inr (11, [.ref o1, .int 0, .ref o2, .ref o3, .ref o4, .ref o5, .ref o6, .ref o7, .ref o8, .ref o9, .ref o10])), (o2, .inr (3, [.ref u1, .ref u2, .ref u3, .ref u4, .ref u5])), (u1, .inr (6, [.int 0, .ref u11, .ref u12, .ref u13, .ref u14, .ref u15, .ref u16, .ref u17]))]) [0, 1, 2] rfl) (hD.sub (ws' := [(o0, .inr (11, [.ref o1, .int 0, .ref o2, .ref o3, .ref o4, .ref o5, .ref o6, .ref o7, .ref o8, .ref o9, .ref o10])), (o2, .inr (3, [.ref u1, .ref u2, .ref u3, .ref u4, .ref u5])), (u1, .inr (6, [.int 0, .ref u11, .ref u12, .ref u13, .ref u14, .ref u15, .ref u16, .ref u17]))]) [0, 1, 2] (by decide) rfl) hS ⟨rfl, rfl⟩ d_NF_renewed_17
set_option maxHeartbeats 4000000 in
set_option maxRecDepth 100000 in
theorem c_NF_tell (l : Launch) (D : va_G) (cB cI cJ : ClassId) (o0 : Nat) (p0 : Int32) (p1 : Int32) (p2 : Int32) (p3 : Int32) (p4 : Int32) (o1 : Nat) (o2 : Nat) (o3 : Nat) (o4 : Nat) (o5 : Nat) (o6 : Nat) (o7 : Nat) (o8 : Nat) (o9 : Nat) (o10 : Nat) (u1 : Nat) (u2 : Nat) (u3 : Nat) (u4 : Nat) (u5 : Nat) (u21 : Nat) (u22 : Nat) (u23 : Nat) (u24 : Nat) : nz_Ci l D cB cI cJ nz_x0 y_NF_tell b_NF_tell 6 (some .int) { frames := 1, cells := 0, slots := 0, locals := 21 } [.ref o0, .int p0, .int p1, .int p2, .int p3, .int p4] [(o0, .inr (11, [.ref o1, .int 0, .ref o2, .ref o3, .ref o4, .ref o5, .ref o6, .ref o7, .ref o8, .ref o9, .ref o10])), (o2, .inr (3, [.ref u1, .ref u2, .ref u3, .ref u4, .ref u5])), (u2, .inr (4, [.int 0, .ref u21, .int 0, .ref u22, .ref u23, .ref u24]))] (fun r w => r = (-1) ∧ w = [(o0, .inr (11, [.ref o1, .int 0, .ref o2, .ref o3, .ref o4, .ref o5, .ref o6, .ref o7, .ref o8, .ref o9, .ref o10])), (o2, .inr (3, [.ref u1, .ref u2, .ref u3, .ref u4, .ref u5])), (u2, .inr (4, [.int 0, .ref u21, .int 0, .ref u22, .ref u23, .ref u24]))]) := by
  refine nz_Ci.mk (by decide) (Nat.le_of_ble_eq_true rfl) ?_
  intro p e s m below meth c A ls C0 hnm hP hD hS hA hX hl
  have C0 : nz_Cx p s m _ meth c b_NF_tell 6 (some .int) R_NF D cB cI cJ := C0
  obtain ⟨hx, hb, hr, hml, hown, hts, hlk, hK⟩ := id C0
  have hl : lv_has ls 6 [(0, .ref o0), (1, .int p0), (2, .int p1), (3, .int p2), (4, .int p3), (5, .int p4)] := hl
  refine lv_aload_n hx hb d_NF_tell_0 rfl (lv_at hl 0 rfl) ?_
  refine lv_iload_n hx hb d_NF_tell_1 rfl (lv_at hl 3 rfl) ?_
  refine nz_calVi (As := [.int p2]) (rest := []) C0 (c_NF_isMeaning l D cB cI cJ o0 p2 o1 o2 o3 o4 o5 o6 o7 o8 o9 o10 u1 u2 u3 u4 u5 u21 u22 u23 u24) g_NF_176 rfl nz_xb0 (by decide) hl.1 hP hD hS hA [0, 1, 2] [] rfl (wr := []) rfl (by decide) (by decide) (by decide) rfl rfl (fun _ _ _ => trivial) rfl (by decide) d_NF_tell_2 (by decide) (fun r_1 u H locs h_2 hP hD hS => ?_)
  obtain ⟨h_2_r, rfl⟩ := h_2
  have hP : va_P D nz_cl [(o0, .inr (11, [.ref o1, .int 0, .ref o2, .ref o3, .ref o4, .ref o5, .ref o6, .ref o7, .ref o8, .ref o9, .ref o10])), (o2, .inr (3, [.ref u1, .ref u2, .ref u3, .ref u4, .ref u5])), (u2, .inr (4, [.int 0, .ref u21, .int 0, .ref u22, .ref u23, .ref u24]))] H := hP
  have hD : va_D A [(o0, .inr (11, [.ref o1, .int 0, .ref o2, .ref o3, .ref o4, .ref o5, .ref o6, .ref o7, .ref o8, .ref o9, .ref o10])), (o2, .inr (3, [.ref u1, .ref u2, .ref u3, .ref u4, .ref u5])), (u2, .inr (4, [.int 0, .ref u21, .int 0, .ref u22, .ref u23, .ref u24]))] := hD
  subst h_2_r
  refine lv_if_eq (tgt := 21) hx hb d_NF_tell_5 (by decide) (fun c_3 => ?_) (fun c_3 => absurd (by decide +kernel) c_3)
  refine lv_iconst (v := (-1)) hx hb d_NF_tell_21 (by decide +kernel) ?_
  exact nz_reti C0 (hP.sub (ws' := [(o0, .inr (11, [.ref o1, .int 0, .ref o2, .ref o3, .ref o4, .ref o5, .ref o6, .ref o7, .ref o8, .ref o9, .ref o10])), (o2, .inr (3, [.ref u1, .ref u2, .ref u3, .ref u4, .ref u5])), (u2, .inr (4, [.int 0, .ref u21, .int 0, .ref u22, .ref u23, .ref u24]))]) [0, 1, 2] rfl) (hD.sub (ws' := [(o0, .inr (11, [.ref o1, .int 0, .ref o2, .ref o3, .ref o4, .ref o5, .ref o6, .ref o7, .ref o8, .ref o9, .ref o10])), (o2, .inr (3, [.ref u1, .ref u2, .ref u3, .ref u4, .ref u5])), (u2, .inr (4, [.int 0, .ref u21, .int 0, .ref u22, .ref u23, .ref u24]))]) [0, 1, 2] (by decide) rfl) hS ⟨rfl, rfl⟩ d_NF_tell_22
set_option maxHeartbeats 4000000 in
set_option maxRecDepth 100000 in
theorem c_NF_told (l : Launch) (D : va_G) (cB cI cJ : ClassId) (o0 : Nat) (p0 : Int32) (p1 : Int32) (p2 : Int32) (p3 : Int32) (p4 : Int32) (p5 : Int32) (o1 : Nat) (o2 : Nat) (o3 : Nat) (o4 : Nat) (o5 : Nat) (o6 : Nat) (o7 : Nat) (o8 : Nat) (o9 : Nat) (o10 : Nat) (u1 : Nat) (u2 : Nat) (u3 : Nat) (u4 : Nat) (u5 : Nat) (u21 : Nat) (u22 : Nat) (u23 : Nat) (u24 : Nat) : nz_Ci l D cB cI cJ nz_x0 y_NF_told b_NF_told 8 (some .int) { frames := 1, cells := 0, slots := 0, locals := 21 } [.ref o0, .int p0, .int p1, .int p2, .int p3, .int p4, .int p5] [(o0, .inr (11, [.ref o1, .int 0, .ref o2, .ref o3, .ref o4, .ref o5, .ref o6, .ref o7, .ref o8, .ref o9, .ref o10])), (o2, .inr (3, [.ref u1, .ref u2, .ref u3, .ref u4, .ref u5])), (u2, .inr (4, [.int 0, .ref u21, .int 0, .ref u22, .ref u23, .ref u24]))] (fun r w => r = (-1) ∧ w = [(o0, .inr (11, [.ref o1, .int 0, .ref o2, .ref o3, .ref o4, .ref o5, .ref o6, .ref o7, .ref o8, .ref o9, .ref o10])), (o2, .inr (3, [.ref u1, .ref u2, .ref u3, .ref u4, .ref u5])), (u2, .inr (4, [.int 0, .ref u21, .int 0, .ref u22, .ref u23, .ref u24]))]) := by
  refine nz_Ci.mk (by decide) (Nat.le_of_ble_eq_true rfl) ?_
  intro p e s m below meth c A ls C0 hnm hP hD hS hA hX hl
  have C0 : nz_Cx p s m _ meth c b_NF_told 8 (some .int) R_NF D cB cI cJ := C0
  obtain ⟨hx, hb, hr, hml, hown, hts, hlk, hK⟩ := id C0
  have hl : lv_has ls 8 [(0, .ref o0), (1, .int p0), (2, .int p1), (3, .int p2), (4, .int p3), (5, .int p4), (6, .int p5)] := hl
  refine lv_aload_n hx hb d_NF_told_0 rfl (lv_at hl 0 rfl) ?_
  refine lv_iload_n hx hb d_NF_told_1 rfl (lv_at hl 3 rfl) ?_
  refine nz_calVi (As := [.int p2]) (rest := []) C0 (c_NF_isMeaning l D cB cI cJ o0 p2 o1 o2 o3 o4 o5 o6 o7 o8 o9 o10 u1 u2 u3 u4 u5 u21 u22 u23 u24) g_NF_176 rfl nz_xb0 (by decide) hl.1 hP hD hS hA [0, 1, 2] [] rfl (wr := []) rfl (by decide) (by decide) (by decide) rfl rfl (fun _ _ _ => trivial) rfl (by decide) d_NF_told_2 (by decide) (fun r_1 u H locs h_2 hP hD hS => ?_)
  obtain ⟨h_2_r, rfl⟩ := h_2
  have hP : va_P D nz_cl [(o0, .inr (11, [.ref o1, .int 0, .ref o2, .ref o3, .ref o4, .ref o5, .ref o6, .ref o7, .ref o8, .ref o9, .ref o10])), (o2, .inr (3, [.ref u1, .ref u2, .ref u3, .ref u4, .ref u5])), (u2, .inr (4, [.int 0, .ref u21, .int 0, .ref u22, .ref u23, .ref u24]))] H := hP
  have hD : va_D A [(o0, .inr (11, [.ref o1, .int 0, .ref o2, .ref o3, .ref o4, .ref o5, .ref o6, .ref o7, .ref o8, .ref o9, .ref o10])), (o2, .inr (3, [.ref u1, .ref u2, .ref u3, .ref u4, .ref u5])), (u2, .inr (4, [.int 0, .ref u21, .int 0, .ref u22, .ref u23, .ref u24]))] := hD
  subst h_2_r
  refine lv_if_eq (tgt := 21) hx hb d_NF_told_5 (by decide) (fun c_3 => ?_) (fun c_3 => absurd (by decide +kernel) c_3)
  refine lv_iconst (v := (-1)) hx hb d_NF_told_21 (by decide +kernel) ?_
  exact nz_reti C0 (hP.sub (ws' := [(o0, .inr (11, [.ref o1, .int 0, .ref o2, .ref o3, .ref o4, .ref o5, .ref o6, .ref o7, .ref o8, .ref o9, .ref o10])), (o2, .inr (3, [.ref u1, .ref u2, .ref u3, .ref u4, .ref u5])), (u2, .inr (4, [.int 0, .ref u21, .int 0, .ref u22, .ref u23, .ref u24]))]) [0, 1, 2] rfl) (hD.sub (ws' := [(o0, .inr (11, [.ref o1, .int 0, .ref o2, .ref o3, .ref o4, .ref o5, .ref o6, .ref o7, .ref o8, .ref o9, .ref o10])), (o2, .inr (3, [.ref u1, .ref u2, .ref u3, .ref u4, .ref u5])), (u2, .inr (4, [.int 0, .ref u21, .int 0, .ref u22, .ref u23, .ref u24]))]) [0, 1, 2] (by decide) rfl) hS ⟨rfl, rfl⟩ d_NF_told_22
set_option maxHeartbeats 4000000 in
set_option maxRecDepth 100000 in
theorem c_NF_safe (l : Launch) (D : va_G) (cB cI cJ : ClassId) (o0 : Nat) (p0 : Int32) (p1 : Int32) (o1 : Nat) (o2 : Nat) (o3 : Nat) (o4 : Nat) (o5 : Nat) (o6 : Nat) (o7 : Nat) (o8 : Nat) (o9 : Nat) (o10 : Nat) (u1 : Nat) (u2 : Nat) (u3 : Nat) (u4 : Nat) (u5 : Nat) (u11 : Nat) (u12 : Nat) (u13 : Nat) (u14 : Nat) (u15 : Nat) (u16 : Nat) (u17 : Nat) : nz_Ci l D cB cI cJ nz_x0 y_NF_safe b_NF_safe 6 (some .int) { frames := 1, cells := 0, slots := 0, locals := 21 } [.ref o0, .int p0, .int p1] [(o0, .inr (11, [.ref o1, .int 0, .ref o2, .ref o3, .ref o4, .ref o5, .ref o6, .ref o7, .ref o8, .ref o9, .ref o10])), (o2, .inr (3, [.ref u1, .ref u2, .ref u3, .ref u4, .ref u5])), (u1, .inr (6, [.int 0, .ref u11, .ref u12, .ref u13, .ref u14, .ref u15, .ref u16, .ref u17]))] (fun r w => r = (-1) ∧ w = [(o0, .inr (11, [.ref o1, .int 0, .ref o2, .ref o3, .ref o4, .ref o5, .ref o6, .ref o7, .ref o8, .ref o9, .ref o10])), (o2, .inr (3, [.ref u1, .ref u2, .ref u3, .ref u4, .ref u5])), (u1, .inr (6, [.int 0, .ref u11, .ref u12, .ref u13, .ref u14, .ref u15, .ref u16, .ref u17]))]) := by
  refine nz_Ci.mk (by decide) (Nat.le_of_ble_eq_true rfl) ?_
  intro p e s m below meth c A ls C0 hnm hP hD hS hA hX hl
  have C0 : nz_Cx p s m _ meth c b_NF_safe 6 (some .int) R_NF D cB cI cJ := C0
  obtain ⟨hx, hb, hr, hml, hown, hts, hlk, hK⟩ := id C0
  have hl : lv_has ls 6 [(0, .ref o0), (1, .int p0), (2, .int p1)] := hl
  refine lv_aload_n hx hb d_NF_safe_0 rfl (lv_at hl 0 rfl) ?_
  refine lv_iload_n hx hb d_NF_safe_1 rfl (lv_at hl 1 rfl) ?_
  refine nz_calVi (As := [.int p0]) (rest := []) C0 (c_NF_isPlace l D cB cI cJ o0 p0 o1 o2 o3 o4 o5 o6 o7 o8 o9 o10 u1 u2 u3 u4 u5 u11 u12 u13 u14 u15 u16 u17) g_NF_190 rfl nz_xb0 (by decide) hl.1 hP hD hS hA [0, 1, 2] [] rfl (wr := []) rfl (by decide) (by decide) (by decide) rfl rfl (fun _ _ _ => trivial) rfl (by decide) d_NF_safe_2 (by decide) (fun r_1 u H locs h_2 hP hD hS => ?_)
  obtain ⟨h_2_r, rfl⟩ := h_2
  have hP : va_P D nz_cl [(o0, .inr (11, [.ref o1, .int 0, .ref o2, .ref o3, .ref o4, .ref o5, .ref o6, .ref o7, .ref o8, .ref o9, .ref o10])), (o2, .inr (3, [.ref u1, .ref u2, .ref u3, .ref u4, .ref u5])), (u1, .inr (6, [.int 0, .ref u11, .ref u12, .ref u13, .ref u14, .ref u15, .ref u16, .ref u17]))] H := hP
  have hD : va_D A [(o0, .inr (11, [.ref o1, .int 0, .ref o2, .ref o3, .ref o4, .ref o5, .ref o6, .ref o7, .ref o8, .ref o9, .ref o10])), (o2, .inr (3, [.ref u1, .ref u2, .ref u3, .ref u4, .ref u5])), (u1, .inr (6, [.int 0, .ref u11, .ref u12, .ref u13, .ref u14, .ref u15, .ref u16, .ref u17]))] := hD
  subst h_2_r
  refine lv_if_eq (tgt := 16) hx hb d_NF_safe_5 (by decide) (fun c_3 => ?_) (fun c_3 => absurd (by decide +kernel) c_3)
  refine lv_iconst (v := (-1)) hx hb d_NF_safe_16 (by decide +kernel) ?_
  exact nz_reti C0 (hP.sub (ws' := [(o0, .inr (11, [.ref o1, .int 0, .ref o2, .ref o3, .ref o4, .ref o5, .ref o6, .ref o7, .ref o8, .ref o9, .ref o10])), (o2, .inr (3, [.ref u1, .ref u2, .ref u3, .ref u4, .ref u5])), (u1, .inr (6, [.int 0, .ref u11, .ref u12, .ref u13, .ref u14, .ref u15, .ref u16, .ref u17]))]) [0, 1, 2] rfl) (hD.sub (ws' := [(o0, .inr (11, [.ref o1, .int 0, .ref o2, .ref o3, .ref o4, .ref o5, .ref o6, .ref o7, .ref o8, .ref o9, .ref o10])), (o2, .inr (3, [.ref u1, .ref u2, .ref u3, .ref u4, .ref u5])), (u1, .inr (6, [.int 0, .ref u11, .ref u12, .ref u13, .ref u14, .ref u15, .ref u16, .ref u17]))]) [0, 1, 2] (by decide) rfl) hS ⟨rfl, rfl⟩ d_NF_safe_17
set_option maxHeartbeats 4000000 in
set_option maxRecDepth 100000 in
theorem c_NF_hurt (l : Launch) (D : va_G) (cB cI cJ : ClassId) (o0 : Nat) (p0 : Int32) (p1 : Int32) (p2 : Int32) (p3 : Int32) (o1 : Nat) (o2 : Nat) (o3 : Nat) (o4 : Nat) (o5 : Nat) (o6 : Nat) (o7 : Nat) (o8 : Nat) (o9 : Nat) (o10 : Nat) (u1 : Nat) (u2 : Nat) (u3 : Nat) (u4 : Nat) (u5 : Nat) (u11 : Nat) (u12 : Nat) (u13 : Nat) (u14 : Nat) (u15 : Nat) (u16 : Nat) (u17 : Nat) : nz_Ci l D cB cI cJ nz_x0 y_NF_hurt b_NF_hurt 5 (some .int) { frames := 1, cells := 0, slots := 0, locals := 21 } [.ref o0, .int p0, .int p1, .int p2, .int p3] [(o0, .inr (11, [.ref o1, .int 0, .ref o2, .ref o3, .ref o4, .ref o5, .ref o6, .ref o7, .ref o8, .ref o9, .ref o10])), (o2, .inr (3, [.ref u1, .ref u2, .ref u3, .ref u4, .ref u5])), (u1, .inr (6, [.int 0, .ref u11, .ref u12, .ref u13, .ref u14, .ref u15, .ref u16, .ref u17]))] (fun r w => r = (-1000) ∧ w = [(o0, .inr (11, [.ref o1, .int 0, .ref o2, .ref o3, .ref o4, .ref o5, .ref o6, .ref o7, .ref o8, .ref o9, .ref o10])), (o2, .inr (3, [.ref u1, .ref u2, .ref u3, .ref u4, .ref u5])), (u1, .inr (6, [.int 0, .ref u11, .ref u12, .ref u13, .ref u14, .ref u15, .ref u16, .ref u17]))]) := by
  refine nz_Ci.mk (by decide) (Nat.le_of_ble_eq_true rfl) ?_
  intro p e s m below meth c A ls C0 hnm hP hD hS hA hX hl
  have C0 : nz_Cx p s m _ meth c b_NF_hurt 5 (some .int) R_NF D cB cI cJ := C0
  obtain ⟨hx, hb, hr, hml, hown, hts, hlk, hK⟩ := id C0
  have hl : lv_has ls 5 [(0, .ref o0), (1, .int p0), (2, .int p1), (3, .int p2), (4, .int p3)] := hl
  refine lv_aload_n hx hb d_NF_hurt_0 rfl (lv_at hl 0 rfl) ?_
  refine lv_iload_n hx hb d_NF_hurt_1 rfl (lv_at hl 1 rfl) ?_
  refine nz_calVi (As := [.int p0]) (rest := []) C0 (c_NF_isPlace l D cB cI cJ o0 p0 o1 o2 o3 o4 o5 o6 o7 o8 o9 o10 u1 u2 u3 u4 u5 u11 u12 u13 u14 u15 u16 u17) g_NF_190 rfl nz_xb0 (by decide) hl.1 hP hD hS hA [0, 1, 2] [] rfl (wr := []) rfl (by decide) (by decide) (by decide) rfl rfl (fun _ _ _ => trivial) rfl (by decide) d_NF_hurt_2 (by decide) (fun r_1 u H locs h_2 hP hD hS => ?_)
  obtain ⟨h_2_r, rfl⟩ := h_2
  have hP : va_P D nz_cl [(o0, .inr (11, [.ref o1, .int 0, .ref o2, .ref o3, .ref o4, .ref o5, .ref o6, .ref o7, .ref o8, .ref o9, .ref o10])), (o2, .inr (3, [.ref u1, .ref u2, .ref u3, .ref u4, .ref u5])), (u1, .inr (6, [.int 0, .ref u11, .ref u12, .ref u13, .ref u14, .ref u15, .ref u16, .ref u17]))] H := hP
  have hD : va_D A [(o0, .inr (11, [.ref o1, .int 0, .ref o2, .ref o3, .ref o4, .ref o5, .ref o6, .ref o7, .ref o8, .ref o9, .ref o10])), (o2, .inr (3, [.ref u1, .ref u2, .ref u3, .ref u4, .ref u5])), (u1, .inr (6, [.int 0, .ref u11, .ref u12, .ref u13, .ref u14, .ref u15, .ref u16, .ref u17]))] := hD
  subst h_2_r
  refine lv_if_eq (tgt := 23) hx hb d_NF_hurt_5 (by decide) (fun c_3 => ?_) (fun c_3 => absurd (by decide +kernel) c_3)
  refine lv_sipush (v := (-1000)) hx hb d_NF_hurt_23 (by decide +kernel) ?_
  exact nz_reti C0 (hP.sub (ws' := [(o0, .inr (11, [.ref o1, .int 0, .ref o2, .ref o3, .ref o4, .ref o5, .ref o6, .ref o7, .ref o8, .ref o9, .ref o10])), (o2, .inr (3, [.ref u1, .ref u2, .ref u3, .ref u4, .ref u5])), (u1, .inr (6, [.int 0, .ref u11, .ref u12, .ref u13, .ref u14, .ref u15, .ref u16, .ref u17]))]) [0, 1, 2] rfl) (hD.sub (ws' := [(o0, .inr (11, [.ref o1, .int 0, .ref o2, .ref o3, .ref o4, .ref o5, .ref o6, .ref o7, .ref o8, .ref o9, .ref o10])), (o2, .inr (3, [.ref u1, .ref u2, .ref u3, .ref u4, .ref u5])), (u1, .inr (6, [.int 0, .ref u11, .ref u12, .ref u13, .ref u14, .ref u15, .ref u16, .ref u17]))]) [0, 1, 2] (by decide) rfl) hS ⟨rfl, rfl⟩ d_NF_hurt_26
set_option maxHeartbeats 4000000 in
set_option maxRecDepth 100000 in
theorem c_NF_child (l : Launch) (D : va_G) (cB cI cJ : ClassId) (o0 : Nat) (p0 : Int32) (p1 : Int32) (p2 : Int32) (o1 : Nat) (o2 : Nat) (o3 : Nat) (o4 : Nat) (o5 : Nat) (o6 : Nat) (o7 : Nat) (o8 : Nat) (o9 : Nat) (o10 : Nat) (u1 : Nat) (u2 : Nat) (u3 : Nat) (u4 : Nat) (u5 : Nat) (u11 : Nat) (u12 : Nat) (u13 : Nat) (u14 : Nat) (u15 : Nat) (u16 : Nat) (u17 : Nat) : nz_Ci l D cB cI cJ nz_x0 y_NF_child b_NF_child 9 (some .int) { frames := 1, cells := 0, slots := 0, locals := 21 } [.ref o0, .int p0, .int p1, .int p2] [(o0, .inr (11, [.ref o1, .int 0, .ref o2, .ref o3, .ref o4, .ref o5, .ref o6, .ref o7, .ref o8, .ref o9, .ref o10])), (o2, .inr (3, [.ref u1, .ref u2, .ref u3, .ref u4, .ref u5])), (u1, .inr (6, [.int 0, .ref u11, .ref u12, .ref u13, .ref u14, .ref u15, .ref u16, .ref u17]))] (fun r w => r = (-1) ∧ w = [(o0, .inr (11, [.ref o1, .int 0, .ref o2, .ref o3, .ref o4, .ref o5, .ref o6, .ref o7, .ref o8, .ref o9, .ref o10])), (o2, .inr (3, [.ref u1, .ref u2, .ref u3, .ref u4, .ref u5])), (u1, .inr (6, [.int 0, .ref u11, .ref u12, .ref u13, .ref u14, .ref u15, .ref u16, .ref u17]))]) := by
  refine nz_Ci.mk (by decide) (Nat.le_of_ble_eq_true rfl) ?_
  intro p e s m below meth c A ls C0 hnm hP hD hS hA hX hl
  have C0 : nz_Cx p s m _ meth c b_NF_child 9 (some .int) R_NF D cB cI cJ := C0
  obtain ⟨hx, hb, hr, hml, hown, hts, hlk, hK⟩ := id C0
  have hl : lv_has ls 9 [(0, .ref o0), (1, .int p0), (2, .int p1), (3, .int p2)] := hl
  refine lv_aload_n hx hb d_NF_child_0 rfl (lv_at hl 0 rfl) ?_
  refine lv_iload_n hx hb d_NF_child_1 rfl (lv_at hl 1 rfl) ?_
  refine nz_calVi (As := [.int p0]) (rest := []) C0 (c_NF_isPlace l D cB cI cJ o0 p0 o1 o2 o3 o4 o5 o6 o7 o8 o9 o10 u1 u2 u3 u4 u5 u11 u12 u13 u14 u15 u16 u17) g_NF_190 rfl nz_xb0 (by decide) hl.1 hP hD hS hA [0, 1, 2] [] rfl (wr := []) rfl (by decide) (by decide) (by decide) rfl rfl (fun _ _ _ => trivial) rfl (by decide) d_NF_child_2 (by decide) (fun r_1 u H locs h_2 hP hD hS => ?_)
  obtain ⟨h_2_r, rfl⟩ := h_2
  have hP : va_P D nz_cl [(o0, .inr (11, [.ref o1, .int 0, .ref o2, .ref o3, .ref o4, .ref o5, .ref o6, .ref o7, .ref o8, .ref o9, .ref o10])), (o2, .inr (3, [.ref u1, .ref u2, .ref u3, .ref u4, .ref u5])), (u1, .inr (6, [.int 0, .ref u11, .ref u12, .ref u13, .ref u14, .ref u15, .ref u16, .ref u17]))] H := hP
  have hD : va_D A [(o0, .inr (11, [.ref o1, .int 0, .ref o2, .ref o3, .ref o4, .ref o5, .ref o6, .ref o7, .ref o8, .ref o9, .ref o10])), (o2, .inr (3, [.ref u1, .ref u2, .ref u3, .ref u4, .ref u5])), (u1, .inr (6, [.int 0, .ref u11, .ref u12, .ref u13, .ref u14, .ref u15, .ref u16, .ref u17]))] := hD
  subst h_2_r
  refine lv_if_eq (tgt := 15) hx hb d_NF_child_5 (by decide) (fun c_3 => ?_) (fun c_3 => absurd (by decide +kernel) c_3)
  refine lv_iconst (v := (-1)) hx hb d_NF_child_15 (by decide +kernel) ?_
  exact nz_reti C0 (hP.sub (ws' := [(o0, .inr (11, [.ref o1, .int 0, .ref o2, .ref o3, .ref o4, .ref o5, .ref o6, .ref o7, .ref o8, .ref o9, .ref o10])), (o2, .inr (3, [.ref u1, .ref u2, .ref u3, .ref u4, .ref u5])), (u1, .inr (6, [.int 0, .ref u11, .ref u12, .ref u13, .ref u14, .ref u15, .ref u16, .ref u17]))]) [0, 1, 2] rfl) (hD.sub (ws' := [(o0, .inr (11, [.ref o1, .int 0, .ref o2, .ref o3, .ref o4, .ref o5, .ref o6, .ref o7, .ref o8, .ref o9, .ref o10])), (o2, .inr (3, [.ref u1, .ref u2, .ref u3, .ref u4, .ref u5])), (u1, .inr (6, [.int 0, .ref u11, .ref u12, .ref u13, .ref u14, .ref u15, .ref u16, .ref u17]))]) [0, 1, 2] (by decide) rfl) hS ⟨rfl, rfl⟩ d_NF_child_16
set_option maxHeartbeats 4000000 in
set_option maxRecDepth 100000 in
theorem c_NF_wish (l : Launch) (D : va_G) (cB cI cJ : ClassId) (o0 : Nat) (p0 : Int32) (p1 : Int32) (p2 : Int32) (o1 : Nat) (o2 : Nat) (o3 : Nat) (o4 : Nat) (o5 : Nat) (o6 : Nat) (o7 : Nat) (o8 : Nat) (o9 : Nat) (o10 : Nat) (u1 : Nat) (u2 : Nat) (u3 : Nat) (u4 : Nat) (u5 : Nat) (u11 : Nat) (u12 : Nat) (u13 : Nat) (u14 : Nat) (u15 : Nat) (u16 : Nat) (u17 : Nat) : nz_Ci l D cB cI cJ nz_x0 y_NF_wish b_NF_wish 9 (some .int) { frames := 1, cells := 0, slots := 0, locals := 21 } [.ref o0, .int p0, .int p1, .int p2] [(o0, .inr (11, [.ref o1, .int 0, .ref o2, .ref o3, .ref o4, .ref o5, .ref o6, .ref o7, .ref o8, .ref o9, .ref o10])), (o2, .inr (3, [.ref u1, .ref u2, .ref u3, .ref u4, .ref u5])), (u1, .inr (6, [.int 0, .ref u11, .ref u12, .ref u13, .ref u14, .ref u15, .ref u16, .ref u17]))] (fun r w => r = (-1) ∧ w = [(o0, .inr (11, [.ref o1, .int 0, .ref o2, .ref o3, .ref o4, .ref o5, .ref o6, .ref o7, .ref o8, .ref o9, .ref o10])), (o2, .inr (3, [.ref u1, .ref u2, .ref u3, .ref u4, .ref u5])), (u1, .inr (6, [.int 0, .ref u11, .ref u12, .ref u13, .ref u14, .ref u15, .ref u16, .ref u17]))]) := by
  refine nz_Ci.mk (by decide) (Nat.le_of_ble_eq_true rfl) ?_
  intro p e s m below meth c A ls C0 hnm hP hD hS hA hX hl
  have C0 : nz_Cx p s m _ meth c b_NF_wish 9 (some .int) R_NF D cB cI cJ := C0
  obtain ⟨hx, hb, hr, hml, hown, hts, hlk, hK⟩ := id C0
  have hl : lv_has ls 9 [(0, .ref o0), (1, .int p0), (2, .int p1), (3, .int p2)] := hl
  refine lv_aload_n hx hb d_NF_wish_0 rfl (lv_at hl 0 rfl) ?_
  refine lv_iload_n hx hb d_NF_wish_1 rfl (lv_at hl 1 rfl) ?_
  refine nz_calVi (As := [.int p0]) (rest := []) C0 (c_NF_isPlace l D cB cI cJ o0 p0 o1 o2 o3 o4 o5 o6 o7 o8 o9 o10 u1 u2 u3 u4 u5 u11 u12 u13 u14 u15 u16 u17) g_NF_190 rfl nz_xb0 (by decide) hl.1 hP hD hS hA [0, 1, 2] [] rfl (wr := []) rfl (by decide) (by decide) (by decide) rfl rfl (fun _ _ _ => trivial) rfl (by decide) d_NF_wish_2 (by decide) (fun r_1 u H locs h_2 hP hD hS => ?_)
  obtain ⟨h_2_r, rfl⟩ := h_2
  have hP : va_P D nz_cl [(o0, .inr (11, [.ref o1, .int 0, .ref o2, .ref o3, .ref o4, .ref o5, .ref o6, .ref o7, .ref o8, .ref o9, .ref o10])), (o2, .inr (3, [.ref u1, .ref u2, .ref u3, .ref u4, .ref u5])), (u1, .inr (6, [.int 0, .ref u11, .ref u12, .ref u13, .ref u14, .ref u15, .ref u16, .ref u17]))] H := hP
  have hD : va_D A [(o0, .inr (11, [.ref o1, .int 0, .ref o2, .ref o3, .ref o4, .ref o5, .ref o6, .ref o7, .ref o8, .ref o9, .ref o10])), (o2, .inr (3, [.ref u1, .ref u2, .ref u3, .ref u4, .ref u5])), (u1, .inr (6, [.int 0, .ref u11, .ref u12, .ref u13, .ref u14, .ref u15, .ref u16, .ref u17]))] := hD
  subst h_2_r
  refine lv_if_eq (tgt := 15) hx hb d_NF_wish_5 (by decide) (fun c_3 => ?_) (fun c_3 => absurd (by decide +kernel) c_3)
  refine lv_iconst (v := (-1)) hx hb d_NF_wish_15 (by decide +kernel) ?_
  exact nz_reti C0 (hP.sub (ws' := [(o0, .inr (11, [.ref o1, .int 0, .ref o2, .ref o3, .ref o4, .ref o5, .ref o6, .ref o7, .ref o8, .ref o9, .ref o10])), (o2, .inr (3, [.ref u1, .ref u2, .ref u3, .ref u4, .ref u5])), (u1, .inr (6, [.int 0, .ref u11, .ref u12, .ref u13, .ref u14, .ref u15, .ref u16, .ref u17]))]) [0, 1, 2] rfl) (hD.sub (ws' := [(o0, .inr (11, [.ref o1, .int 0, .ref o2, .ref o3, .ref o4, .ref o5, .ref o6, .ref o7, .ref o8, .ref o9, .ref o10])), (o2, .inr (3, [.ref u1, .ref u2, .ref u3, .ref u4, .ref u5])), (u1, .inr (6, [.int 0, .ref u11, .ref u12, .ref u13, .ref u14, .ref u15, .ref u16, .ref u17]))]) [0, 1, 2] (by decide) rfl) hS ⟨rfl, rfl⟩ d_NF_wish_16
set_option maxHeartbeats 4000000 in
set_option maxRecDepth 100000 in
theorem c_NF_old (l : Launch) (D : va_G) (cB cI cJ : ClassId) (o0 : Nat) (p0 : Int32) (p1 : Int32) (o1 : Nat) (o2 : Nat) (o3 : Nat) (o4 : Nat) (o5 : Nat) (o6 : Nat) (o7 : Nat) (o8 : Nat) (o9 : Nat) (o10 : Nat) (u1 : Nat) (u2 : Nat) (u3 : Nat) (u4 : Nat) (u5 : Nat) (u21 : Nat) (u22 : Nat) (u23 : Nat) (u24 : Nat) : nz_Ci l D cB cI cJ nz_x0 y_NF_old b_NF_old 4 (some .int) { frames := 1, cells := 0, slots := 0, locals := 21 } [.ref o0, .int p0, .int p1] [(o0, .inr (11, [.ref o1, .int 0, .ref o2, .ref o3, .ref o4, .ref o5, .ref o6, .ref o7, .ref o8, .ref o9, .ref o10])), (o2, .inr (3, [.ref u1, .ref u2, .ref u3, .ref u4, .ref u5])), (u2, .inr (4, [.int 0, .ref u21, .int 0, .ref u22, .ref u23, .ref u24]))] (fun r w => r = (-1) ∧ w = [(o0, .inr (11, [.ref o1, .int 0, .ref o2, .ref o3, .ref o4, .ref o5, .ref o6, .ref o7, .ref o8, .ref o9, .ref o10])), (o2, .inr (3, [.ref u1, .ref u2, .ref u3, .ref u4, .ref u5])), (u2, .inr (4, [.int 0, .ref u21, .int 0, .ref u22, .ref u23, .ref u24]))]) := by
  refine nz_Ci.mk (by decide) (Nat.le_of_ble_eq_true rfl) ?_
  intro p e s m below meth c A ls C0 hnm hP hD hS hA hX hl
  have C0 : nz_Cx p s m _ meth c b_NF_old 4 (some .int) R_NF D cB cI cJ := C0
  obtain ⟨hx, hb, hr, hml, hown, hts, hlk, hK⟩ := id C0
  have hl : lv_has ls 4 [(0, .ref o0), (1, .int p0), (2, .int p1)] := hl
  refine lv_aload_n hx hb d_NF_old_0 rfl (lv_at hl 0 rfl) ?_
  refine lv_iload_n hx hb d_NF_old_1 rfl (lv_at hl 1 rfl) ?_
  refine nz_calVi (As := [.int p0]) (rest := []) C0 (c_NF_isMeaning l D cB cI cJ o0 p0 o1 o2 o3 o4 o5 o6 o7 o8 o9 o10 u1 u2 u3 u4 u5 u21 u22 u23 u24) g_NF_176 rfl nz_xb0 (by decide) hl.1 hP hD hS hA [0, 1, 2] [] rfl (wr := []) rfl (by decide) (by decide) (by decide) rfl rfl (fun _ _ _ => trivial) rfl (by decide) d_NF_old_2 (by decide) (fun r_1 u H locs h_2 hP hD hS => ?_)
  obtain ⟨h_2_r, rfl⟩ := h_2
  have hP : va_P D nz_cl [(o0, .inr (11, [.ref o1, .int 0, .ref o2, .ref o3, .ref o4, .ref o5, .ref o6, .ref o7, .ref o8, .ref o9, .ref o10])), (o2, .inr (3, [.ref u1, .ref u2, .ref u3, .ref u4, .ref u5])), (u2, .inr (4, [.int 0, .ref u21, .int 0, .ref u22, .ref u23, .ref u24]))] H := hP
  have hD : va_D A [(o0, .inr (11, [.ref o1, .int 0, .ref o2, .ref o3, .ref o4, .ref o5, .ref o6, .ref o7, .ref o8, .ref o9, .ref o10])), (o2, .inr (3, [.ref u1, .ref u2, .ref u3, .ref u4, .ref u5])), (u2, .inr (4, [.int 0, .ref u21, .int 0, .ref u22, .ref u23, .ref u24]))] := hD
  subst h_2_r
  refine lv_if_eq (tgt := 17) hx hb d_NF_old_5 (by decide) (fun c_3 => ?_) (fun c_3 => absurd (by decide +kernel) c_3)
  refine lv_iconst (v := (-1)) hx hb d_NF_old_17 (by decide +kernel) ?_
  exact nz_reti C0 (hP.sub (ws' := [(o0, .inr (11, [.ref o1, .int 0, .ref o2, .ref o3, .ref o4, .ref o5, .ref o6, .ref o7, .ref o8, .ref o9, .ref o10])), (o2, .inr (3, [.ref u1, .ref u2, .ref u3, .ref u4, .ref u5])), (u2, .inr (4, [.int 0, .ref u21, .int 0, .ref u22, .ref u23, .ref u24]))]) [0, 1, 2] rfl) (hD.sub (ws' := [(o0, .inr (11, [.ref o1, .int 0, .ref o2, .ref o3, .ref o4, .ref o5, .ref o6, .ref o7, .ref o8, .ref o9, .ref o10])), (o2, .inr (3, [.ref u1, .ref u2, .ref u3, .ref u4, .ref u5])), (u2, .inr (4, [.int 0, .ref u21, .int 0, .ref u22, .ref u23, .ref u24]))]) [0, 1, 2] (by decide) rfl) hS ⟨rfl, rfl⟩ d_NF_old_18
set_option maxHeartbeats 4000000 in
set_option maxRecDepth 100000 in
theorem c_NF_judge (l : Launch) (D : va_G) (cB cI cJ : ClassId) (o0 : Nat) (p0 : Int32) (p1 : Int32) (p2 : Int32) (p3 : Int32) (p4 : Int32) (o1 : Nat) (o2 : Nat) (o3 : Nat) (o4 : Nat) (o5 : Nat) (o6 : Nat) (o7 : Nat) (o8 : Nat) (o9 : Nat) (o10 : Nat) (u1 : Nat) (u2 : Nat) (u3 : Nat) (u4 : Nat) (u5 : Nat) (u41 : Nat) (u42 : Nat) (u43 : Nat) (u44 : Nat) (u45 : Nat) (u46 : Nat) (u47 : Nat) (u48 : Nat) (u49 : Nat) : nz_Ci l D cB cI cJ nz_x0 y_NF_judge b_NF_judge 6 (some .int) { frames := 2, cells := 0, slots := 0, locals := 45 } [.ref o0, .int p0, .int p1, .int p2, .int p3, .int p4] [(o0, .inr (11, [.ref o1, .int 0, .ref o2, .ref o3, .ref o4, .ref o5, .ref o6, .ref o7, .ref o8, .ref o9, .ref o10])), (o2, .inr (3, [.ref u1, .ref u2, .ref u3, .ref u4, .ref u5])), (u4, .inr (5, [.int 0, .int 0, .ref u41, .ref u42, .ref u43, .ref u44, .ref u45, .ref u46, .ref u47, .ref u48, .ref u49]))] (fun r w => r = (-1) ∧ w = [(o0, .inr (11, [.ref o1, .int 0, .ref o2, .ref o3, .ref o4, .ref o5, .ref o6, .ref o7, .ref o8, .ref o9, .ref o10])), (o2, .inr (3, [.ref u1, .ref u2, .ref u3, .ref u4, .ref u5])), (u4, .inr (5, [.int 0, .int 0, .ref u41, .ref u42, .ref u43, .ref u44, .ref u45, .ref u46, .ref u47, .ref u48, .ref u49]))]) := by
  refine nz_Ci.mk (by decide) (Nat.le_of_ble_eq_true rfl) ?_
  intro p e s m below meth c A ls C0 hnm hP hD hS hA hX hl
  have C0 : nz_Cx p s m _ meth c b_NF_judge 6 (some .int) R_NF D cB cI cJ := C0
  obtain ⟨hx, hb, hr, hml, hown, hts, hlk, hK⟩ := id C0
  have hl : lv_has ls 6 [(0, .ref o0), (1, .int p0), (2, .int p1), (3, .int p2), (4, .int p3), (5, .int p4)] := hl
  refine lv_iload_n hx hb d_NF_judge_0 rfl (lv_at hl 3 rfl) ?_
  refine lv_iconst (v := 1) hx hb d_NF_judge_1 (by decide +kernel) ?_
  refine lv_icmp_lt (tgt := 24) hx hb d_NF_judge_2 (by decide) (fun c_1 => ?_) (fun c_1 => ?_)
  · refine lv_iconst (v := (-1)) hx hb d_NF_judge_24 (by decide +kernel) ?_
    exact nz_reti C0 (hP.sub (ws' := [(o0, .inr (11, [.ref o1, .int 0, .ref o2, .ref o3, .ref o4, .ref o5, .ref o6, .ref o7, .ref o8, .ref o9, .ref o10])), (o2, .inr (3, [.ref u1, .ref u2, .ref u3, .ref u4, .ref u5])), (u4, .inr (5, [.int 0, .int 0, .ref u41, .ref u42, .ref u43, .ref u44, .ref u45, .ref u46, .ref u47, .ref u48, .ref u49]))]) [0, 1, 2] rfl) (hD.sub (ws' := [(o0, .inr (11, [.ref o1, .int 0, .ref o2, .ref o3, .ref o4, .ref o5, .ref o6, .ref o7, .ref o8, .ref o9, .ref o10])), (o2, .inr (3, [.ref u1, .ref u2, .ref u3, .ref u4, .ref u5])), (u4, .inr (5, [.int 0, .int 0, .ref u41, .ref u42, .ref u43, .ref u44, .ref u45, .ref u46, .ref u47, .ref u48, .ref u49]))]) [0, 1, 2] (by decide) rfl) hS ⟨rfl, rfl⟩ d_NF_judge_25
  · refine lv_iload_n hx hb d_NF_judge_5 rfl (lv_at hl 3 rfl) ?_
    refine lv_ldc (v := 33554431) hx hb hown (hts _ k_800) d_NF_judge_6 ?_
    refine lv_icmp_gt (tgt := 24) hx hb d_NF_judge_8 (by decide) (fun c_2 => ?_) (fun c_2 => ?_)
    · refine lv_iconst (v := (-1)) hx hb d_NF_judge_24 (by decide +kernel) ?_
      exact nz_reti C0 (hP.sub (ws' := [(o0, .inr (11, [.ref o1, .int 0, .ref o2, .ref o3, .ref o4, .ref o5, .ref o6, .ref o7, .ref o8, .ref o9, .ref o10])), (o2, .inr (3, [.ref u1, .ref u2, .ref u3, .ref u4, .ref u5])), (u4, .inr (5, [.int 0, .int 0, .ref u41, .ref u42, .ref u43, .ref u44, .ref u45, .ref u46, .ref u47, .ref u48, .ref u49]))]) [0, 1, 2] rfl) (hD.sub (ws' := [(o0, .inr (11, [.ref o1, .int 0, .ref o2, .ref o3, .ref o4, .ref o5, .ref o6, .ref o7, .ref o8, .ref o9, .ref o10])), (o2, .inr (3, [.ref u1, .ref u2, .ref u3, .ref u4, .ref u5])), (u4, .inr (5, [.int 0, .int 0, .ref u41, .ref u42, .ref u43, .ref u44, .ref u45, .ref u46, .ref u47, .ref u48, .ref u49]))]) [0, 1, 2] (by decide) rfl) hS ⟨rfl, rfl⟩ d_NF_judge_25
    · refine lv_aload_n hx hb d_NF_judge_11 rfl (lv_at hl 0 rfl) ?_
      refine lv_iload_n hx hb d_NF_judge_12 rfl (lv_at hl 1 rfl) ?_
      refine lv_iload_n hx hb d_NF_judge_13 rfl (lv_at hl 2 rfl) ?_
      refine lv_iload hx hb d_NF_judge_14 (lv_at hl 4 rfl) ?_
      refine lv_iload hx hb d_NF_judge_16 (lv_at hl 5 rfl) ?_
      refine nz_calVi (As := [.int p0, .int p1, .int p3, .int p4]) (rest := []) C0 (c_NF_canSpeak l D cB cI cJ o0 p0 p1 p3 p4 o1 o2 o3 o4 o5 o6 o7 o8 o9 o10 u1 u2 u3 u4 u5 u41 u42 u43 u44 u45 u46 u47 u48 u49) g_NF_161 rfl nz_xb0 (by decide) hl.1 hP hD hS hA [0, 1, 2] [] rfl (wr := []) rfl (by decide) (by decide) (by decide) rfl rfl (fun _ _ _ => trivial) rfl (by decide) d_NF_judge_18 (by decide) (fun r_3 u H locs h_4 hP hD hS => ?_)
      obtain ⟨h_4_r, rfl⟩ := h_4
      have hP : va_P D nz_cl [(o0, .inr (11, [.ref o1, .int 0, .ref o2, .ref o3, .ref o4, .ref o5, .ref o6, .ref o7, .ref o8, .ref o9, .ref o10])), (o2, .inr (3, [.ref u1, .ref u2, .ref u3, .ref u4, .ref u5])), (u4, .inr (5, [.int 0, .int 0, .ref u41, .ref u42, .ref u43, .ref u44, .ref u45, .ref u46, .ref u47, .ref u48, .ref u49]))] H := hP
      have hD : va_D A [(o0, .inr (11, [.ref o1, .int 0, .ref o2, .ref o3, .ref o4, .ref o5, .ref o6, .ref o7, .ref o8, .ref o9, .ref o10])), (o2, .inr (3, [.ref u1, .ref u2, .ref u3, .ref u4, .ref u5])), (u4, .inr (5, [.int 0, .int 0, .ref u41, .ref u42, .ref u43, .ref u44, .ref u45, .ref u46, .ref u47, .ref u48, .ref u49]))] := hD
      subst h_4_r
      refine lv_if_ne (tgt := 26) hx hb d_NF_judge_21 (by decide) (fun c_5 => absurd c_5 (by decide +kernel)) (fun c_5 => ?_)
      refine lv_iconst (v := (-1)) hx hb d_NF_judge_24 (by decide +kernel) ?_
      exact nz_reti C0 (hP.sub (ws' := [(o0, .inr (11, [.ref o1, .int 0, .ref o2, .ref o3, .ref o4, .ref o5, .ref o6, .ref o7, .ref o8, .ref o9, .ref o10])), (o2, .inr (3, [.ref u1, .ref u2, .ref u3, .ref u4, .ref u5])), (u4, .inr (5, [.int 0, .int 0, .ref u41, .ref u42, .ref u43, .ref u44, .ref u45, .ref u46, .ref u47, .ref u48, .ref u49]))]) [0, 1, 2] rfl) (hD.sub (ws' := [(o0, .inr (11, [.ref o1, .int 0, .ref o2, .ref o3, .ref o4, .ref o5, .ref o6, .ref o7, .ref o8, .ref o9, .ref o10])), (o2, .inr (3, [.ref u1, .ref u2, .ref u3, .ref u4, .ref u5])), (u4, .inr (5, [.int 0, .int 0, .ref u41, .ref u42, .ref u43, .ref u44, .ref u45, .ref u46, .ref u47, .ref u48, .ref u49]))]) [0, 1, 2] (by decide) rfl) hS ⟨rfl, rfl⟩ d_NF_judge_25
set_option maxHeartbeats 4000000 in
set_option maxRecDepth 100000 in
theorem c_NF_mean (l : Launch) (D : va_G) (cB cI cJ : ClassId) (o0 : Nat) (p0 : Int32) (p1 : Int32) (p2 : Int32) (p3 : Int32) (p4 : Int32) (o1 : Nat) (o2 : Nat) (o3 : Nat) (o4 : Nat) (o5 : Nat) (o6 : Nat) (o7 : Nat) (o8 : Nat) (o9 : Nat) (o10 : Nat) (u1 : Nat) (u2 : Nat) (u3 : Nat) (u4 : Nat) (u5 : Nat) (u11 : Nat) (u12 : Nat) (u13 : Nat) (u14 : Nat) (u15 : Nat) (u16 : Nat) (u17 : Nat) : nz_Cl l D cB cI cJ nz_x0 y_NF_mean b_NF_mean 7 (some .long) { frames := 1, cells := 0, slots := 0, locals := 21 } [.ref o0, .int p0, .int p1, .int p2, .int p3, .int p4] [(o0, .inr (11, [.ref o1, .int 0, .ref o2, .ref o3, .ref o4, .ref o5, .ref o6, .ref o7, .ref o8, .ref o9, .ref o10])), (o2, .inr (3, [.ref u1, .ref u2, .ref u3, .ref u4, .ref u5])), (u1, .inr (6, [.int 0, .ref u11, .ref u12, .ref u13, .ref u14, .ref u15, .ref u16, .ref u17]))] (fun r w => r = (-1) ∧ w = [(o0, .inr (11, [.ref o1, .int 0, .ref o2, .ref o3, .ref o4, .ref o5, .ref o6, .ref o7, .ref o8, .ref o9, .ref o10])), (o2, .inr (3, [.ref u1, .ref u2, .ref u3, .ref u4, .ref u5])), (u1, .inr (6, [.int 0, .ref u11, .ref u12, .ref u13, .ref u14, .ref u15, .ref u16, .ref u17]))]) := by
  refine nz_Cl.mk (by decide) (Nat.le_of_ble_eq_true rfl) ?_
  intro p e s m below meth c A ls C0 hnm hP hD hS hA hX hl
  have C0 : nz_Cx p s m _ meth c b_NF_mean 7 (some .long) R_NF D cB cI cJ := C0
  obtain ⟨hx, hb, hr, hml, hown, hts, hlk, hK⟩ := id C0
  have hl : lv_has ls 7 [(0, .ref o0), (1, .int p0), (2, .int p1), (3, .int p2), (4, .int p3), (5, .int p4)] := hl
  refine lv_aload_n hx hb d_NF_mean_0 rfl (lv_at hl 0 rfl) ?_
  refine lv_iload_n hx hb d_NF_mean_1 rfl (lv_at hl 1 rfl) ?_
  refine nz_calVi (As := [.int p0]) (rest := []) C0 (c_NF_isPlace l D cB cI cJ o0 p0 o1 o2 o3 o4 o5 o6 o7 o8 o9 o10 u1 u2 u3 u4 u5 u11 u12 u13 u14 u15 u16 u17) g_NF_190 rfl nz_xb0 (by decide) hl.1 hP hD hS hA [0, 1, 2] [] rfl (wr := []) rfl (by decide) (by decide) (by decide) rfl rfl (fun _ _ _ => trivial) rfl (by decide) d_NF_mean_2 (by decide) (fun r_1 u H locs h_2 hP hD hS => ?_)
  obtain ⟨h_2_r, rfl⟩ := h_2
  have hP : va_P D nz_cl [(o0, .inr (11, [.ref o1, .int 0, .ref o2, .ref o3, .ref o4, .ref o5, .ref o6, .ref o7, .ref o8, .ref o9, .ref o10])), (o2, .inr (3, [.ref u1, .ref u2, .ref u3, .ref u4, .ref u5])), (u1, .inr (6, [.int 0, .ref u11, .ref u12, .ref u13, .ref u14, .ref u15, .ref u16, .ref u17]))] H := hP
  have hD : va_D A [(o0, .inr (11, [.ref o1, .int 0, .ref o2, .ref o3, .ref o4, .ref o5, .ref o6, .ref o7, .ref o8, .ref o9, .ref o10])), (o2, .inr (3, [.ref u1, .ref u2, .ref u3, .ref u4, .ref u5])), (u1, .inr (6, [.int 0, .ref u11, .ref u12, .ref u13, .ref u14, .ref u15, .ref u16, .ref u17]))] := hD
  subst h_2_r
  refine lv_if_eq (tgt := 29) hx hb d_NF_mean_5 (by decide) (fun c_3 => ?_) (fun c_3 => absurd (by decide +kernel) c_3)
  refine lv_iconst (v := 0) hx hb d_NF_mean_29 (by decide +kernel) ?_
  refine lv_istore (lv' := [(6, .int 0), (0, .ref o0), (1, .int p0), (2, .int p1), (3, .int p2), (4, .int p3), (5, .int p4)]) hx hb d_NF_mean_30 hl (by decide) rfl (fun ls hl => ?_)
  refine lv_iload hx hb d_NF_mean_32 (lv_at hl 0 rfl) ?_
  refine lv_if_eq (tgt := 48) hx hb d_NF_mean_34 (by decide) (fun c_4 => ?_) (fun c_4 => absurd (by decide +kernel) c_4)
  refine lv_ldc2 (v := (-1)) hx hb hown (hts _ k_958) d_NF_mean_48 ?_
  exact nz_retl C0 (hP.sub (ws' := [(o0, .inr (11, [.ref o1, .int 0, .ref o2, .ref o3, .ref o4, .ref o5, .ref o6, .ref o7, .ref o8, .ref o9, .ref o10])), (o2, .inr (3, [.ref u1, .ref u2, .ref u3, .ref u4, .ref u5])), (u1, .inr (6, [.int 0, .ref u11, .ref u12, .ref u13, .ref u14, .ref u15, .ref u16, .ref u17]))]) [0, 1, 2] rfl) (hD.sub (ws' := [(o0, .inr (11, [.ref o1, .int 0, .ref o2, .ref o3, .ref o4, .ref o5, .ref o6, .ref o7, .ref o8, .ref o9, .ref o10])), (o2, .inr (3, [.ref u1, .ref u2, .ref u3, .ref u4, .ref u5])), (u1, .inr (6, [.int 0, .ref u11, .ref u12, .ref u13, .ref u14, .ref u15, .ref u16, .ref u17]))]) [0, 1, 2] (by decide) rfl) hS ⟨rfl, rfl⟩ d_NF_mean_51
end
section
def nz_lf (z : Int32) : Int32 := if z < 0 then -1 else if 1000 < z then -1 else z
def nz_in (z : Int32) : Int32 := if z < 0 then 0 else if 1000 < z then 0 else 1
def nz_fl (z : Int32) : Int32 := if z = 0 then 0 else -1
def nz_ab (z : Int32) : Int32 := if z.toInt < 0 ∨ 8 < z.toInt then -1 else 0
def nz_en (z : Int32) : Int32 := if z < 0 then -1 else if 0 < z then -1 else z
set_option maxHeartbeats 4000000 in
set_option maxRecDepth 100000 in
theorem c_Deaths_goOn (l : Launch) (D : va_G) (cB cI cJ : ClassId) (o5 : Nat) (p0 : Int32) (d1 : Nat) (d2 : Nat) (d3 : Nat) (d4 : Nat) : nz_Ci l D cB cI cJ nz_x0 y_Deaths_goOn b_Deaths_goOn 2 (some .int) { frames := 0, cells := 0, slots := 0, locals := 0 } [.ref o5, .int p0] [(o5, .inr (1, [.int 0, .int 0, .ref d1, .ref d2, .ref d3, .ref d4]))] (fun r w => ∃ (zt : Int32), r = nz_lf p0 ∧ w = [(o5, .inr (1, [.int 0, .int zt, .ref d1, .ref d2, .ref d3, .ref d4]))]) := by
  refine nz_Ci.mk (by decide) (Nat.le_of_ble_eq_true rfl) ?_
  intro p e s m below meth c A ls C0 hnm hP hD hS hA hX hl
  have C0 : nz_Cx p s m _ meth c b_Deaths_goOn 2 (some .int) R_Deaths D cB cI cJ := C0
  obtain ⟨hx, hb, hr, hml, hown, hts, hlk, hK⟩ := id C0
  have hl : lv_has ls 2 [(0, .ref o5), (1, .int p0)] := hl
  refine lv_iload_n hx hb d_Deaths_goOn_0 rfl (lv_at hl 1 rfl) ?_
  refine lv_if_lt (tgt := 22) hx hb d_Deaths_goOn_1 (by decide) (fun c_1 => ?_) (fun c_1 => ?_)
  · refine lv_iconst (v := (-1)) hx hb d_Deaths_goOn_22 (by decide +kernel) ?_
    exact nz_reti C0 (hP.sub (ws' := [(o5, .inr (1, [.int 0, .int 0, .ref d1, .ref d2, .ref d3, .ref d4]))]) [0] rfl) (hD.sub (ws' := [(o5, .inr (1, [.int 0, .int 0, .ref d1, .ref d2, .ref d3, .ref d4]))]) [0] (by decide) rfl) hS ⟨0, (by unfold nz_lf; (try first | rw [if_pos c_1] | rw [if_neg c_1] | rw [if_pos (Int32.not_le.mp c_1)] | rw [if_neg (Int32.not_lt.mpr c_1)] | rw [if_pos (Decidable.not_not.mp c_1)])), rfl⟩ d_Deaths_goOn_23
  · refine lv_iload_n hx hb d_Deaths_goOn_4 rfl (lv_at hl 1 rfl) ?_
    refine lv_sipush (v := 1000) hx hb d_Deaths_goOn_5 (by decide +kernel) ?_
    refine lv_icmp_gt (tgt := 22) hx hb d_Deaths_goOn_8 (by decide) (fun c_2 => ?_) (fun c_2 => ?_)
    · refine lv_iconst (v := (-1)) hx hb d_Deaths_goOn_22 (by decide +kernel) ?_
      exact nz_reti C0 (hP.sub (ws' := [(o5, .inr (1, [.int 0, .int 0, .ref d1, .ref d2, .ref d3, .ref d4]))]) [0] rfl) (hD.sub (ws' := [(o5, .inr (1, [.int 0, .int 0, .ref d1, .ref d2, .ref d3, .ref d4]))]) [0] (by decide) rfl) hS ⟨0, (by unfold nz_lf; (try first | rw [if_pos c_1] | rw [if_neg c_1] | rw [if_pos (Int32.not_le.mp c_1)] | rw [if_neg (Int32.not_lt.mpr c_1)] | rw [if_pos (Decidable.not_not.mp c_1)]); (try first | rw [if_pos c_2] | rw [if_neg c_2] | rw [if_pos (Int32.not_le.mp c_2)] | rw [if_neg (Int32.not_lt.mpr c_2)] | rw [if_pos (Decidable.not_not.mp c_2)])), rfl⟩ d_Deaths_goOn_23
    · refine lv_aload_n hx hb d_Deaths_goOn_11 rfl (lv_at hl 0 rfl) ?_
      refine va_get (D := D) (ci := 1) (v := .int 0) (C := R_Deaths) (T := F_Deaths) (N := 6) hx hb hts i_Deaths hown hK.1 hP 0 rfl rfl 1 (by decide) (hts _ k_395) (fun _ h9 => h9) rfl d_Deaths_goOn_12 ?_
      refine lv_iload_n hx hb d_Deaths_goOn_15 rfl (lv_at hl 1 rfl) ?_
      refine lv_iadd hx hb d_Deaths_goOn_16 ?_
      refine nz_ctopi (v := p0) (Int32.zero_add _) ?_
      refine lv_ldc (v := 100000) hx hb hown (hts _ k_721) d_Deaths_goOn_17 ?_
      refine lv_icmp_le (tgt := 24) hx hb d_Deaths_goOn_19 (by decide) (fun c_3 => ?_) (fun c_3 => ?_)
      · refine lv_aload_n hx hb d_Deaths_goOn_24 rfl (lv_at hl 0 rfl) ?_
        refine lv_dup hx hb d_Deaths_goOn_25 rfl ?_
        refine va_get (D := D) (ci := 1) (v := .int 0) (C := R_Deaths) (T := F_Deaths) (N := 6) hx hb hts i_Deaths hown hK.1 hP 0 rfl rfl 1 (by decide) (hts _ k_395) (fun _ h9 => h9) rfl d_Deaths_goOn_26 ?_
        refine lv_iload_n hx hb d_Deaths_goOn_29 rfl (lv_at hl 1 rfl) ?_
        refine lv_iadd hx hb d_Deaths_goOn_30 ?_
        refine nz_ctopi (v := p0) (Int32.zero_add _) ?_
        refine va_put (D := D) (ci := 1) (v := .int p0) (ty := .int) (C := R_Deaths) (T := F_Deaths) (N := 6) hx hb hts i_Deaths t_Deaths t_Deaths_ok n_Deaths hown hK.1 hP hD hS 0 rfl rfl 1 (by decide) (hts _ k_395) (fun _ h9 => h9) rfl (by decide +kernel) rfl rfl (Nat.le_of_ble_eq_true rfl) d_Deaths_goOn_31 (fun H locs hP hD hS => ?_)
        have hP : va_P D nz_cl [(o5, .inr (1, [.int 0, .int p0, .ref d1, .ref d2, .ref d3, .ref d4]))] H := hP
        have hD : va_D A [(o5, .inr (1, [.int 0, .int p0, .ref d1, .ref d2, .ref d3, .ref d4]))] := hD
        refine lv_aload_n hx hb d_Deaths_goOn_34 rfl (lv_at hl 0 rfl) ?_
        refine va_get (D := D) (ci := 1) (v := .int p0) (C := R_Deaths) (T := F_Deaths) (N := 6) hx hb hts i_Deaths hown hK.1 hP 0 rfl rfl 1 (by decide) (hts _ k_395) (fun _ h9 => h9) rfl d_Deaths_goOn_35 ?_
        exact nz_reti C0 (hP.sub (ws' := [(o5, .inr (1, [.int 0, .int p0, .ref d1, .ref d2, .ref d3, .ref d4]))]) [0] rfl) (hD.sub (ws' := [(o5, .inr (1, [.int 0, .int p0, .ref d1, .ref d2, .ref d3, .ref d4]))]) [0] (by decide) rfl) hS ⟨p0, (by unfold nz_lf; (try first | rw [if_pos c_1] | rw [if_neg c_1] | rw [if_pos (Int32.not_le.mp c_1)] | rw [if_neg (Int32.not_lt.mpr c_1)] | rw [if_pos (Decidable.not_not.mp c_1)]); (try first | rw [if_pos c_2] | rw [if_neg c_2] | rw [if_pos (Int32.not_le.mp c_2)] | rw [if_neg (Int32.not_lt.mpr c_2)] | rw [if_pos (Decidable.not_not.mp c_2)]); (try first | rw [if_pos c_3] | rw [if_neg c_3] | rw [if_pos (Int32.not_le.mp c_3)] | rw [if_neg (Int32.not_lt.mpr c_3)] | rw [if_pos (Decidable.not_not.mp c_3)])), rfl⟩ d_Deaths_goOn_38
      · exfalso; have z0 : (0 : Int32).toInt = 0 := (by decide +kernel); have z1 : (1000 : Int32).toInt = 1000 := (by decide +kernel); have z2 : (100000 : Int32).toInt = 100000 := (by decide +kernel); simp only [Int32.lt_iff_toInt_lt, Int32.le_iff_toInt_le, ← Int32.toInt_inj] at c_1 c_2 c_3; omega
set_option maxHeartbeats 4000000 in
set_option maxRecDepth 100000 in
theorem c_NF_later (l : Launch) (D : va_G) (cB cI cJ : ClassId) (o0 : Nat) (p0 : Int32) (o1 : Nat) (o2 : Nat) (o3 : Nat) (o4 : Nat) (o5 : Nat) (o6 : Nat) (o7 : Nat) (o8 : Nat) (o9 : Nat) (o10 : Nat) (d1 : Nat) (d2 : Nat) (d3 : Nat) (d4 : Nat) : nz_Ci l D cB cI cJ nz_x0 y_NF_later b_NF_later 2 (some .int) { frames := 1, cells := 0, slots := 0, locals := 21 } [.ref o0, .int p0] [(o0, .inr (11, [.ref o1, .int 0, .ref o2, .ref o3, .ref o4, .ref o5, .ref o6, .ref o7, .ref o8, .ref o9, .ref o10])), (o5, .inr (1, [.int 0, .int 0, .ref d1, .ref d2, .ref d3, .ref d4]))] (fun r w => ∃ (zt : Int32), r = nz_lf p0 ∧ w = [(o0, .inr (11, [.ref o1, .int 0, .ref o2, .ref o3, .ref o4, .ref o5, .ref o6, .ref o7, .ref o8, .ref o9, .ref o10])), (o5, .inr (1, [.int 0, .int zt, .ref d1, .ref d2, .ref d3, .ref d4]))]) := by
  refine nz_Ci.mk (by decide) (Nat.le_of_ble_eq_true rfl) ?_
  intro p e s m below meth c A ls C0 hnm hP hD hS hA hX hl
  have C0 : nz_Cx p s m _ meth c b_NF_later 2 (some .int) R_NF D cB cI cJ := C0
  obtain ⟨hx, hb, hr, hml, hown, hts, hlk, hK⟩ := id C0
  have hl : lv_has ls 2 [(0, .ref o0), (1, .int p0)] := hl
  refine lv_aload_n hx hb d_NF_later_0 rfl (lv_at hl 0 rfl) ?_
  refine va_get (D := D) (ci := 11) (v := .ref o5) (C := R_NF) (T := F_NF) (N := 11) hx hb hts i_NF hown hK.1 hP 0 rfl rfl 5 (by decide) (hts _ k_465) (fun _ h9 => h9) rfl d_NF_later_1 ?_
  refine lv_iload_n hx hb d_NF_later_4 rfl (lv_at hl 1 rfl) ?_
  refine nz_calVi (As := [.int p0]) (rest := []) C0 (c_Deaths_goOn l D cB cI cJ o5 p0 d1 d2 d3 d4) g_NF_127 rfl nz_xb0 (by decide) hl.1 hP hD hS hA [1] [0] rfl (wr := [(o0, .inr (11, [.ref o1, .int 0, .ref o2, .ref o3, .ref o4, .ref o5, .ref o6, .ref o7, .ref o8, .ref o9, .ref o10]))]) rfl (by decide) (by decide) (by decide) rfl rfl (fun _ _ _ => trivial) rfl (by decide) d_NF_later_5 (by decide) (fun r_1 u H locs h_3 hP hD hS => ?_)
  obtain ⟨z_2, h_3_r, rfl⟩ := h_3
  have hP : va_P D nz_cl [(o0, .inr (11, [.ref o1, .int 0, .ref o2, .ref o3, .ref o4, .ref o5, .ref o6, .ref o7, .ref o8, .ref o9, .ref o10])), (o5, .inr (1, [.int 0, .int z_2, .ref d1, .ref d2, .ref d3, .ref d4]))] H := hP
  have hD : va_D A [(o0, .inr (11, [.ref o1, .int 0, .ref o2, .ref o3, .ref o4, .ref o5, .ref o6, .ref o7, .ref o8, .ref o9, .ref o10])), (o5, .inr (1, [.int 0, .int z_2, .ref d1, .ref d2, .ref d3, .ref d4]))] := hD
  subst h_3_r
  exact nz_reti C0 (hP.sub (ws' := [(o0, .inr (11, [.ref o1, .int 0, .ref o2, .ref o3, .ref o4, .ref o5, .ref o6, .ref o7, .ref o8, .ref o9, .ref o10])), (o5, .inr (1, [.int 0, .int z_2, .ref d1, .ref d2, .ref d3, .ref d4]))]) [0, 1] rfl) (hD.sub (ws' := [(o0, .inr (11, [.ref o1, .int 0, .ref o2, .ref o3, .ref o4, .ref o5, .ref o6, .ref o7, .ref o8, .ref o9, .ref o10])), (o5, .inr (1, [.int 0, .int z_2, .ref d1, .ref d2, .ref d3, .ref d4]))]) [0, 1] (by decide) rfl) hS ⟨z_2, rfl, rfl⟩ d_NF_later_8
set_option maxHeartbeats 4000000 in
set_option maxRecDepth 100000 in
theorem c_Deaths_takeBack (l : Launch) (D : va_G) (cB cI cJ : ClassId) (o5 : Nat) (p0 : Int32) (d1 : Nat) (d2 : Nat) (d3 : Nat) (d4 : Nat) : nz_Ci l D cB cI cJ nz_x0 y_Deaths_takeBack b_Deaths_takeBack 2 (some .boolean) { frames := 0, cells := 0, slots := 0, locals := 0 } [.ref o5, .int p0] [(o5, .inr (1, [.int 0, .int 0, .ref d1, .ref d2, .ref d3, .ref d4]))] (fun r w => r = 0 ∧ w = [(o5, .inr (1, [.int 0, .int 0, .ref d1, .ref d2, .ref d3, .ref d4]))]) := by
  refine nz_Ci.mk (by decide) (Nat.le_of_ble_eq_true rfl) ?_
  intro p e s m below meth c A ls C0 hnm hP hD hS hA hX hl
  have C0 : nz_Cx p s m _ meth c b_Deaths_takeBack 2 (some .boolean) R_Deaths D cB cI cJ := C0
  obtain ⟨hx, hb, hr, hml, hown, hts, hlk, hK⟩ := id C0
  have hl : lv_has ls 2 [(0, .ref o5), (1, .int p0)] := hl
  refine lv_iload_n hx hb d_Deaths_takeBack_0 rfl (lv_at hl 1 rfl) ?_
  refine lv_if_lt (tgt := 22) hx hb d_Deaths_takeBack_1 (by decide) (fun c_1 => ?_) (fun c_1 => ?_)
  · refine lv_iconst (v := 0) hx hb d_Deaths_takeBack_22 (by decide +kernel) ?_
    exact nz_retz C0 (by decide +kernel) (hP.sub (ws' := [(o5, .inr (1, [.int 0, .int 0, .ref d1, .ref d2, .ref d3, .ref d4]))]) [0] rfl) (hD.sub (ws' := [(o5, .inr (1, [.int 0, .int 0, .ref d1, .ref d2, .ref d3, .ref d4]))]) [0] (by decide) rfl) hS ⟨rfl, rfl⟩ d_Deaths_takeBack_23
  · refine lv_iload_n hx hb d_Deaths_takeBack_4 rfl (lv_at hl 1 rfl) ?_
    refine lv_aload_n hx hb d_Deaths_takeBack_5 rfl (lv_at hl 0 rfl) ?_
    refine va_get (D := D) (ci := 1) (v := .int 0) (C := R_Deaths) (T := F_Deaths) (N := 6) hx hb hts i_Deaths hown hK.1 hP 0 rfl rfl 0 (by decide) (hts _ k_393) (fun _ h9 => h9) rfl d_Deaths_takeBack_6 ?_
    refine lv_icmp_ge (tgt := 22) hx hb d_Deaths_takeBack_9 (by decide) (fun c_2 => ?_) (fun c_2 => ?_)
    · refine lv_iconst (v := 0) hx hb d_Deaths_takeBack_22 (by decide +kernel) ?_
      exact nz_retz C0 (by decide +kernel) (hP.sub (ws' := [(o5, .inr (1, [.int 0, .int 0, .ref d1, .ref d2, .ref d3, .ref d4]))]) [0] rfl) (hD.sub (ws' := [(o5, .inr (1, [.int 0, .int 0, .ref d1, .ref d2, .ref d3, .ref d4]))]) [0] (by decide) rfl) hS ⟨rfl, rfl⟩ d_Deaths_takeBack_23
    · exfalso; have z0 : (0 : Int32).toInt = 0 := (by decide +kernel); simp only [Int32.lt_iff_toInt_lt, Int32.le_iff_toInt_le, ← Int32.toInt_inj] at c_1 c_2; omega
set_option maxHeartbeats 4000000 in
set_option maxRecDepth 100000 in
theorem c_NF_untell (l : Launch) (D : va_G) (cB cI cJ : ClassId) (o0 : Nat) (p0 : Int32) (o1 : Nat) (o2 : Nat) (o3 : Nat) (o4 : Nat) (o5 : Nat) (o6 : Nat) (o7 : Nat) (o8 : Nat) (o9 : Nat) (o10 : Nat) (d1 : Nat) (d2 : Nat) (d3 : Nat) (d4 : Nat) : nz_Ci l D cB cI cJ nz_x0 y_NF_untell b_NF_untell 2 (some .boolean) { frames := 1, cells := 0, slots := 0, locals := 21 } [.ref o0, .int p0] [(o0, .inr (11, [.ref o1, .int 0, .ref o2, .ref o3, .ref o4, .ref o5, .ref o6, .ref o7, .ref o8, .ref o9, .ref o10])), (o5, .inr (1, [.int 0, .int 0, .ref d1, .ref d2, .ref d3, .ref d4]))] (fun r w => r = 0 ∧ w = [(o0, .inr (11, [.ref o1, .int 0, .ref o2, .ref o3, .ref o4, .ref o5, .ref o6, .ref o7, .ref o8, .ref o9, .ref o10])), (o5, .inr (1, [.int 0, .int 0, .ref d1, .ref d2, .ref d3, .ref d4]))]) := by
  refine nz_Ci.mk (by decide) (Nat.le_of_ble_eq_true rfl) ?_
  intro p e s m below meth c A ls C0 hnm hP hD hS hA hX hl
  have C0 : nz_Cx p s m _ meth c b_NF_untell 2 (some .boolean) R_NF D cB cI cJ := C0
  obtain ⟨hx, hb, hr, hml, hown, hts, hlk, hK⟩ := id C0
  have hl : lv_has ls 2 [(0, .ref o0), (1, .int p0)] := hl
  refine lv_aload_n hx hb d_NF_untell_0 rfl (lv_at hl 0 rfl) ?_
  refine va_get (D := D) (ci := 11) (v := .ref o5) (C := R_NF) (T := F_NF) (N := 11) hx hb hts i_NF hown hK.1 hP 0 rfl rfl 5 (by decide) (hts _ k_465) (fun _ h9 => h9) rfl d_NF_untell_1 ?_
  refine lv_iload_n hx hb d_NF_untell_4 rfl (lv_at hl 1 rfl) ?_
  refine nz_calVi (As := [.int p0]) (rest := []) C0 (c_Deaths_takeBack l D cB cI cJ o5 p0 d1 d2 d3 d4) g_NF_124 rfl nz_xb0 (by decide) hl.1 hP hD hS hA [1] [0] rfl (wr := [(o0, .inr (11, [.ref o1, .int 0, .ref o2, .ref o3, .ref o4, .ref o5, .ref o6, .ref o7, .ref o8, .ref o9, .ref o10]))]) rfl (by decide) (by decide) (by decide) rfl rfl (fun _ _ _ => trivial) rfl (by decide) d_NF_untell_5 (by decide) (fun r_1 u H locs h_2 hP hD hS => ?_)
  obtain ⟨h_2_r, rfl⟩ := h_2
  have hP : va_P D nz_cl [(o0, .inr (11, [.ref o1, .int 0, .ref o2, .ref o3, .ref o4, .ref o5, .ref o6, .ref o7, .ref o8, .ref o9, .ref o10])), (o5, .inr (1, [.int 0, .int 0, .ref d1, .ref d2, .ref d3, .ref d4]))] H := hP
  have hD : va_D A [(o0, .inr (11, [.ref o1, .int 0, .ref o2, .ref o3, .ref o4, .ref o5, .ref o6, .ref o7, .ref o8, .ref o9, .ref o10])), (o5, .inr (1, [.int 0, .int 0, .ref d1, .ref d2, .ref d3, .ref d4]))] := hD
  subst h_2_r
  exact nz_retz C0 (by decide +kernel) (hP.sub (ws' := [(o0, .inr (11, [.ref o1, .int 0, .ref o2, .ref o3, .ref o4, .ref o5, .ref o6, .ref o7, .ref o8, .ref o9, .ref o10])), (o5, .inr (1, [.int 0, .int 0, .ref d1, .ref d2, .ref d3, .ref d4]))]) [0, 1] rfl) (hD.sub (ws' := [(o0, .inr (11, [.ref o1, .int 0, .ref o2, .ref o3, .ref o4, .ref o5, .ref o6, .ref o7, .ref o8, .ref o9, .ref o10])), (o5, .inr (1, [.int 0, .int 0, .ref d1, .ref d2, .ref d3, .ref d4]))]) [0, 1] (by decide) rfl) hS ⟨rfl, rfl⟩ d_NF_untell_8
set_option maxHeartbeats 4000000 in
set_option maxRecDepth 100000 in
theorem c_NF_end (l : Launch) (D : va_G) (cB cI cJ : ClassId) (o0 : Nat) (p0 : Int32) (o1 : Nat) (o2 : Nat) (o3 : Nat) (o4 : Nat) (o5 : Nat) (o6 : Nat) (o7 : Nat) (o8 : Nat) (o9 : Nat) (o10 : Nat) : nz_Ci l D cB cI cJ nz_x0 y_NF_end b_NF_end 2 (some .int) { frames := 0, cells := 0, slots := 0, locals := 0 } [.ref o0, .int p0] [(o0, .inr (11, [.ref o1, .int 0, .ref o2, .ref o3, .ref o4, .ref o5, .ref o6, .ref o7, .ref o8, .ref o9, .ref o10]))] (fun r w => ∃ (zt : Int32), r = nz_en p0 ∧ w = [(o0, .inr (11, [.ref o1, .int zt, .ref o2, .ref o3, .ref o4, .ref o5, .ref o6, .ref o7, .ref o8, .ref o9, .ref o10]))]) := by
  refine nz_Ci.mk (by decide) (Nat.le_of_ble_eq_true rfl) ?_
  intro p e s m below meth c A ls C0 hnm hP hD hS hA hX hl
  have C0 : nz_Cx p s m _ meth c b_NF_end 2 (some .int) R_NF D cB cI cJ := C0
  obtain ⟨hx, hb, hr, hml, hown, hts, hlk, hK⟩ := id C0
  have hl : lv_has ls 2 [(0, .ref o0), (1, .int p0)] := hl
  refine lv_iload_n hx hb d_NF_end_0 rfl (lv_at hl 1 rfl) ?_
  refine lv_if_lt (tgt := 12) hx hb d_NF_end_1 (by decide) (fun c_1 => ?_) (fun c_1 => ?_)
  · refine lv_iconst (v := (-1)) hx hb d_NF_end_12 (by decide +kernel) ?_
    exact nz_reti C0 (hP.sub (ws' := [(o0, .inr (11, [.ref o1, .int 0, .ref o2, .ref o3, .ref o4, .ref o5, .ref o6, .ref o7, .ref o8, .ref o9, .ref o10]))]) [0] rfl) (hD.sub (ws' := [(o0, .inr (11, [.ref o1, .int 0, .ref o2, .ref o3, .ref o4, .ref o5, .ref o6, .ref o7, .ref o8, .ref o9, .ref o10]))]) [0] (by decide) rfl) hS ⟨0, (by unfold nz_en; (try first | rw [if_pos c_1] | rw [if_neg c_1] | rw [if_pos (Int32.not_le.mp c_1)] | rw [if_neg (Int32.not_lt.mpr c_1)] | rw [if_pos (Decidable.not_not.mp c_1)])), rfl⟩ d_NF_end_13
  · refine lv_iload_n hx hb d_NF_end_4 rfl (lv_at hl 1 rfl) ?_
    refine lv_aload_n hx hb d_NF_end_5 rfl (lv_at hl 0 rfl) ?_
    refine va_get (D := D) (ci := 11) (v := .int 0) (C := R_NF) (T := F_NF) (N := 11) hx hb hts i_NF hown hK.1 hP 0 rfl rfl 1 (by decide) (hts _ k_461) (fun _ h9 => h9) rfl d_NF_end_6 ?_
    refine lv_icmp_le (tgt := 14) hx hb d_NF_end_9 (by decide) (fun c_2 => ?_) (fun c_2 => ?_)
    · refine lv_aload_n hx hb d_NF_end_14 rfl (lv_at hl 0 rfl) ?_
      refine lv_iload_n hx hb d_NF_end_15 rfl (lv_at hl 1 rfl) ?_
      refine va_put (D := D) (ci := 11) (v := .int p0) (ty := .int) (C := R_NF) (T := F_NF) (N := 11) hx hb hts i_NF t_NF t_NF_ok n_NF hown hK.1 hP hD hS 0 rfl rfl 1 (by decide) (hts _ k_461) (fun _ h9 => h9) rfl (by decide +kernel) rfl rfl (Nat.le_of_ble_eq_true rfl) d_NF_end_16 (fun H locs hP hD hS => ?_)
      have hP : va_P D nz_cl [(o0, .inr (11, [.ref o1, .int p0, .ref o2, .ref o3, .ref o4, .ref o5, .ref o6, .ref o7, .ref o8, .ref o9, .ref o10]))] H := hP
      have hD : va_D A [(o0, .inr (11, [.ref o1, .int p0, .ref o2, .ref o3, .ref o4, .ref o5, .ref o6, .ref o7, .ref o8, .ref o9, .ref o10]))] := hD
      refine lv_iload_n hx hb d_NF_end_19 rfl (lv_at hl 1 rfl) ?_
      exact nz_reti C0 (hP.sub (ws' := [(o0, .inr (11, [.ref o1, .int p0, .ref o2, .ref o3, .ref o4, .ref o5, .ref o6, .ref o7, .ref o8, .ref o9, .ref o10]))]) [0] rfl) (hD.sub (ws' := [(o0, .inr (11, [.ref o1, .int p0, .ref o2, .ref o3, .ref o4, .ref o5, .ref o6, .ref o7, .ref o8, .ref o9, .ref o10]))]) [0] (by decide) rfl) hS ⟨p0, (by unfold nz_en; (try first | rw [if_pos c_1] | rw [if_neg c_1] | rw [if_pos (Int32.not_le.mp c_1)] | rw [if_neg (Int32.not_lt.mpr c_1)] | rw [if_pos (Decidable.not_not.mp c_1)]); (try first | rw [if_pos c_2] | rw [if_neg c_2] | rw [if_pos (Int32.not_le.mp c_2)] | rw [if_neg (Int32.not_lt.mpr c_2)] | rw [if_pos (Decidable.not_not.mp c_2)])), rfl⟩ d_NF_end_20
    · refine lv_iconst (v := (-1)) hx hb d_NF_end_12 (by decide +kernel) ?_
      exact nz_reti C0 (hP.sub (ws' := [(o0, .inr (11, [.ref o1, .int 0, .ref o2, .ref o3, .ref o4, .ref o5, .ref o6, .ref o7, .ref o8, .ref o9, .ref o10]))]) [0] rfl) (hD.sub (ws' := [(o0, .inr (11, [.ref o1, .int 0, .ref o2, .ref o3, .ref o4, .ref o5, .ref o6, .ref o7, .ref o8, .ref o9, .ref o10]))]) [0] (by decide) rfl) hS ⟨0, (by unfold nz_en; (try first | rw [if_pos c_1] | rw [if_neg c_1] | rw [if_pos (Int32.not_le.mp c_1)] | rw [if_neg (Int32.not_lt.mpr c_1)] | rw [if_pos (Decidable.not_not.mp c_1)]); (try first | rw [if_pos c_2] | rw [if_neg c_2] | rw [if_pos (Int32.not_le.mp c_2)] | rw [if_neg (Int32.not_lt.mpr c_2)] | rw [if_pos (Decidable.not_not.mp c_2)])), rfl⟩ d_NF_end_13
set_option maxHeartbeats 4000000 in
set_option maxRecDepth 100000 in
theorem c_NF_fault (l : Launch) (D : va_G) (cB cI cJ : ClassId) (o0 : Nat) (p0 : Int32) (o1 : Nat) (o2 : Nat) (o3 : Nat) (o4 : Nat) (o5 : Nat) (o6 : Nat) (o7 : Nat) (o8 : Nat) (o9 : Nat) (o10 : Nat) (s0 : Nat) : nz_Ci l D cB cI cJ nz_x0 y_NF_fault b_NF_fault 2 (some .int) { frames := 0, cells := 0, slots := 0, locals := 0 } [.ref o0, .int p0] [(o0, .inr (11, [.ref o1, .int 0, .ref o2, .ref o3, .ref o4, .ref o5, .ref o6, .ref o7, .ref o8, .ref o9, .ref o10])), (o4, .inr (7, [.int 0, .int (-1), .ref s0, .long 0, .int 0]))] (fun r w => r = nz_fl p0 ∧ w = [(o0, .inr (11, [.ref o1, .int 0, .ref o2, .ref o3, .ref o4, .ref o5, .ref o6, .ref o7, .ref o8, .ref o9, .ref o10])), (o4, .inr (7, [.int 0, .int (-1), .ref s0, .long 0, .int 0]))]) := by
  refine nz_Ci.mk (by decide) (Nat.le_of_ble_eq_true rfl) ?_
  intro p e s m below meth c A ls C0 hnm hP hD hS hA hX hl
  have C0 : nz_Cx p s m _ meth c b_NF_fault 2 (some .int) R_NF D cB cI cJ := C0
  obtain ⟨hx, hb, hr, hml, hown, hts, hlk, hK⟩ := id C0
  have hl : lv_has ls 2 [(0, .ref o0), (1, .int p0)] := hl
  refine lv_iload_n hx hb d_NF_fault_0 rfl (lv_at hl 1 rfl) ?_
  by_cases c_1 : p0 = 0
  · refine lv_lookup (off := 27) (tgt := 28) hx hb d_NF_fault_1 (by decide) (by rw [c_1]; rfl) (by decide) ?_
    refine lv_aload_n hx hb d_NF_fault_28 rfl (lv_at hl 0 rfl) ?_
    refine va_get (D := D) (ci := 11) (v := .ref o4) (C := R_NF) (T := F_NF) (N := 11) hx hb hts i_NF hown hK.1 hP 0 rfl rfl 4 (by decide) (hts _ k_464) (fun _ h9 => h9) rfl d_NF_fault_29 ?_
    refine va_get (D := D) (ci := 7) (v := .int 0) (C := R_Reader) (T := F_Reader) (N := 5) hx hb hts i_Reader hown hK.1 hP 1 rfl rfl 0 (by decide) (hts _ k_370) (fun _ h9 => h9) rfl d_NF_fault_32 ?_
    exact nz_reti C0 (hP.sub (ws' := [(o0, .inr (11, [.ref o1, .int 0, .ref o2, .ref o3, .ref o4, .ref o5, .ref o6, .ref o7, .ref o8, .ref o9, .ref o10])), (o4, .inr (7, [.int 0, .int (-1), .ref s0, .long 0, .int 0]))]) [0, 1] rfl) (hD.sub (ws' := [(o0, .inr (11, [.ref o1, .int 0, .ref o2, .ref o3, .ref o4, .ref o5, .ref o6, .ref o7, .ref o8, .ref o9, .ref o10])), (o4, .inr (7, [.int 0, .int (-1), .ref s0, .long 0, .int 0]))]) [0, 1] (by decide) rfl) hS ⟨(by unfold nz_fl; (try first | rw [if_pos c_1] | rw [if_neg c_1] | rw [if_pos (Int32.not_le.mp c_1)] | rw [if_neg (Int32.not_lt.mpr c_1)] | rw [if_pos (Decidable.not_not.mp c_1)])), rfl⟩ d_NF_fault_35
  · skip
    by_cases c_2 : p0 = 1
    · refine lv_lookup (off := 35) (tgt := 36) hx hb d_NF_fault_1 (by decide) (by rw [c_2]; rfl) (by decide) ?_
      refine lv_aload_n hx hb d_NF_fault_36 rfl (lv_at hl 0 rfl) ?_
      refine va_get (D := D) (ci := 11) (v := .ref o4) (C := R_NF) (T := F_NF) (N := 11) hx hb hts i_NF hown hK.1 hP 0 rfl rfl 4 (by decide) (hts _ k_464) (fun _ h9 => h9) rfl d_NF_fault_37 ?_
      refine va_get (D := D) (ci := 7) (v := .int (-1)) (C := R_Reader) (T := F_Reader) (N := 5) hx hb hts i_Reader hown hK.1 hP 1 rfl rfl 1 (by decide) (hts _ k_372) (fun _ h9 => h9) rfl d_NF_fault_40 ?_
      exact nz_reti C0 (hP.sub (ws' := [(o0, .inr (11, [.ref o1, .int 0, .ref o2, .ref o3, .ref o4, .ref o5, .ref o6, .ref o7, .ref o8, .ref o9, .ref o10])), (o4, .inr (7, [.int 0, .int (-1), .ref s0, .long 0, .int 0]))]) [0, 1] rfl) (hD.sub (ws' := [(o0, .inr (11, [.ref o1, .int 0, .ref o2, .ref o3, .ref o4, .ref o5, .ref o6, .ref o7, .ref o8, .ref o9, .ref o10])), (o4, .inr (7, [.int 0, .int (-1), .ref s0, .long 0, .int 0]))]) [0, 1] (by decide) rfl) hS ⟨(by unfold nz_fl; (try first | rw [if_pos c_1] | rw [if_neg c_1] | rw [if_pos (Int32.not_le.mp c_1)] | rw [if_neg (Int32.not_lt.mpr c_1)] | rw [if_pos (Decidable.not_not.mp c_1)]); (try first | rw [if_pos c_2] | rw [if_neg c_2] | rw [if_pos (Int32.not_le.mp c_2)] | rw [if_neg (Int32.not_lt.mpr c_2)] | rw [if_pos (Decidable.not_not.mp c_2)])), rfl⟩ d_NF_fault_43
    · skip
      refine lv_lookup (off := 43) (tgt := 44) hx hb d_NF_fault_1 (by decide) ((lv_osw c_1 (by decide +kernel)).trans ((lv_osw c_2 (by decide +kernel)).trans (rfl))) (by decide) ?_
      refine lv_iconst (v := (-1)) hx hb d_NF_fault_44 (by decide +kernel) ?_
      exact nz_reti C0 (hP.sub (ws' := [(o0, .inr (11, [.ref o1, .int 0, .ref o2, .ref o3, .ref o4, .ref o5, .ref o6, .ref o7, .ref o8, .ref o9, .ref o10])), (o4, .inr (7, [.int 0, .int (-1), .ref s0, .long 0, .int 0]))]) [0, 1] rfl) (hD.sub (ws' := [(o0, .inr (11, [.ref o1, .int 0, .ref o2, .ref o3, .ref o4, .ref o5, .ref o6, .ref o7, .ref o8, .ref o9, .ref o10])), (o4, .inr (7, [.int 0, .int (-1), .ref s0, .long 0, .int 0]))]) [0, 1] (by decide) rfl) hS ⟨(by unfold nz_fl; (try first | rw [if_pos c_1] | rw [if_neg c_1] | rw [if_pos (Int32.not_le.mp c_1)] | rw [if_neg (Int32.not_lt.mpr c_1)] | rw [if_pos (Decidable.not_not.mp c_1)]); (try first | rw [if_pos c_2] | rw [if_neg c_2] | rw [if_pos (Int32.not_le.mp c_2)] | rw [if_neg (Int32.not_lt.mpr c_2)] | rw [if_pos (Decidable.not_not.mp c_2)])), rfl⟩ d_NF_fault_45
set_option maxHeartbeats 4000000 in
set_option maxRecDepth 100000 in
theorem c_NF_about (l : Launch) (D : va_G) (cB cI cJ : ClassId) (o0 : Nat) (p0 : Int32) (o1 : Nat) (o2 : Nat) (o3 : Nat) (o4 : Nat) (o5 : Nat) (o6 : Nat) (o7 : Nat) (o8 : Nat) (o9 : Nat) (o10 : Nat) (u1 : Nat) (u2 : Nat) (u3 : Nat) (u4 : Nat) (u5 : Nat) (u11 : Nat) (u12 : Nat) (u13 : Nat) (u14 : Nat) (u15 : Nat) (u16 : Nat) (u17 : Nat) (u21 : Nat) (u22 : Nat) (u23 : Nat) (u24 : Nat) (u31 : Nat) (u32 : Nat) (u41 : Nat) (u42 : Nat) (u43 : Nat) (u44 : Nat) (u45 : Nat) (u46 : Nat) (u47 : Nat) (u48 : Nat) (u49 : Nat) (d1 : Nat) (d2 : Nat) (d3 : Nat) (d4 : Nat) : nz_Ci l D cB cI cJ nz_x0 y_NF_about b_NF_about 2 (some .int) { frames := 0, cells := 0, slots := 0, locals := 0 } [.ref o0, .int p0] [(o0, .inr (11, [.ref o1, .int 0, .ref o2, .ref o3, .ref o4, .ref o5, .ref o6, .ref o7, .ref o8, .ref o9, .ref o10])), (o2, .inr (3, [.ref u1, .ref u2, .ref u3, .ref u4, .ref u5])), (u1, .inr (6, [.int 0, .ref u11, .ref u12, .ref u13, .ref u14, .ref u15, .ref u16, .ref u17])), (u2, .inr (4, [.int 0, .ref u21, .int 0, .ref u22, .ref u23, .ref u24])), (u3, .inr (10, [.int 0, .ref u31, .ref u32])), (u4, .inr (5, [.int 0, .int 0, .ref u41, .ref u42, .ref u43, .ref u44, .ref u45, .ref u46, .ref u47, .ref u48, .ref u49])), (o5, .inr (1, [.int 0, .int 0, .ref d1, .ref d2, .ref d3, .ref d4]))] (fun r w => r = nz_ab p0 ∧ w = [(o0, .inr (11, [.ref o1, .int 0, .ref o2, .ref o3, .ref o4, .ref o5, .ref o6, .ref o7, .ref o8, .ref o9, .ref o10])), (o2, .inr (3, [.ref u1, .ref u2, .ref u3, .ref u4, .ref u5])), (u1, .inr (6, [.int 0, .ref u11, .ref u12, .ref u13, .ref u14, .ref u15, .ref u16, .ref u17])), (u2, .inr (4, [.int 0, .ref u21, .int 0, .ref u22, .ref u23, .ref u24])), (u3, .inr (10, [.int 0, .ref u31, .ref u32])), (u4, .inr (5, [.int 0, .int 0, .ref u41, .ref u42, .ref u43, .ref u44, .ref u45, .ref u46, .ref u47, .ref u48, .ref u49])), (o5, .inr (1, [.int 0, .int 0, .ref d1, .ref d2, .ref d3, .ref d4]))]) := by
  refine nz_Ci.mk (by decide) (Nat.le_of_ble_eq_true rfl) ?_
  intro p e s m below meth c A ls C0 hnm hP hD hS hA hX hl
  have C0 : nz_Cx p s m _ meth c b_NF_about 2 (some .int) R_NF D cB cI cJ := C0
  obtain ⟨hx, hb, hr, hml, hown, hts, hlk, hK⟩ := id C0
  have hl : lv_has ls 2 [(0, .ref o0), (1, .int p0)] := hl
  refine lv_iload_n hx hb d_NF_about_0 rfl (lv_at hl 1 rfl) ?_
  by_cases c_1 : p0.toInt < 0 ∨ 8 < p0.toInt
  · refine lv_tableOut (tgt := 139) hx hb d_NF_about_1 c_1 (by decide) ?_
    refine lv_iconst (v := (-1)) hx hb d_NF_about_139 (by decide +kernel) ?_
    exact nz_reti C0 (hP.sub (ws' := [(o0, .inr (11, [.ref o1, .int 0, .ref o2, .ref o3, .ref o4, .ref o5, .ref o6, .ref o7, .ref o8, .ref o9, .ref o10])), (o2, .inr (3, [.ref u1, .ref u2, .ref u3, .ref u4, .ref u5])), (u1, .inr (6, [.int 0, .ref u11, .ref u12, .ref u13, .ref u14, .ref u15, .ref u16, .ref u17])), (u2, .inr (4, [.int 0, .ref u21, .int 0, .ref u22, .ref u23, .ref u24])), (u3, .inr (10, [.int 0, .ref u31, .ref u32])), (u4, .inr (5, [.int 0, .int 0, .ref u41, .ref u42, .ref u43, .ref u44, .ref u45, .ref u46, .ref u47, .ref u48, .ref u49])), (o5, .inr (1, [.int 0, .int 0, .ref d1, .ref d2, .ref d3, .ref d4]))]) [0, 1, 2, 3, 4, 5, 6] rfl) (hD.sub (ws' := [(o0, .inr (11, [.ref o1, .int 0, .ref o2, .ref o3, .ref o4, .ref o5, .ref o6, .ref o7, .ref o8, .ref o9, .ref o10])), (o2, .inr (3, [.ref u1, .ref u2, .ref u3, .ref u4, .ref u5])), (u1, .inr (6, [.int 0, .ref u11, .ref u12, .ref u13, .ref u14, .ref u15, .ref u16, .ref u17])), (u2, .inr (4, [.int 0, .ref u21, .int 0, .ref u22, .ref u23, .ref u24])), (u3, .inr (10, [.int 0, .ref u31, .ref u32])), (u4, .inr (5, [.int 0, .int 0, .ref u41, .ref u42, .ref u43, .ref u44, .ref u45, .ref u46, .ref u47, .ref u48, .ref u49])), (o5, .inr (1, [.int 0, .int 0, .ref d1, .ref d2, .ref d3, .ref d4]))]) [0, 1, 2, 3, 4, 5, 6] (by decide) rfl) hS ⟨(by unfold nz_ab; (try first | rw [if_pos c_1] | rw [if_neg c_1] | rw [if_pos (Int32.not_le.mp c_1)] | rw [if_neg (Int32.not_lt.mpr c_1)] | rw [if_pos (Decidable.not_not.mp c_1)])), rfl⟩ d_NF_about_140
  · have hh : p0.toInt = 0 ∨ p0.toInt = 1 ∨ p0.toInt = 2 ∨ p0.toInt = 3 ∨ p0.toInt = 4 ∨ p0.toInt = 5 ∨ p0.toInt = 6 ∨ p0.toInt = 7 ∨ p0.toInt = 8 := by omega
    rcases hh with hh | hh | hh | hh | hh | hh | hh | hh | hh
    · refine lv_tableIn (off := 51) (tgt := 52) hx hb d_NF_about_1 (by omega) (by omega) (by rw [hh]; rfl) (by decide) ?_
      refine lv_aload_n hx hb d_NF_about_52 rfl (lv_at hl 0 rfl) ?_
      refine va_get (D := D) (ci := 11) (v := .ref o2) (C := R_NF) (T := F_NF) (N := 11) hx hb hts i_NF hown hK.1 hP 0 rfl rfl 2 (by decide) (hts _ k_462) (fun _ h9 => h9) rfl d_NF_about_53 ?_
      refine va_get (D := D) (ci := 3) (v := .ref u1) (C := R_Land) (T := F_Land) (N := 5) hx hb hts i_Land hown hK.1 hP 1 rfl rfl 0 (by decide) (hts _ k_217) (fun _ h9 => h9) rfl d_NF_about_56 ?_
      refine va_get (D := D) (ci := 6) (v := .int 0) (C := R_Places) (T := F_Places) (N := 8) hx hb hts i_Places hown hK.1 hP 2 rfl rfl 0 (by decide) (hts _ k_44) (fun _ h9 => h9) rfl d_NF_about_59 ?_
      exact nz_reti C0 (hP.sub (ws' := [(o0, .inr (11, [.ref o1, .int 0, .ref o2, .ref o3, .ref o4, .ref o5, .ref o6, .ref o7, .ref o8, .ref o9, .ref o10])), (o2, .inr (3, [.ref u1, .ref u2, .ref u3, .ref u4, .ref u5])), (u1, .inr (6, [.int 0, .ref u11, .ref u12, .ref u13, .ref u14, .ref u15, .ref u16, .ref u17])), (u2, .inr (4, [.int 0, .ref u21, .int 0, .ref u22, .ref u23, .ref u24])), (u3, .inr (10, [.int 0, .ref u31, .ref u32])), (u4, .inr (5, [.int 0, .int 0, .ref u41, .ref u42, .ref u43, .ref u44, .ref u45, .ref u46, .ref u47, .ref u48, .ref u49])), (o5, .inr (1, [.int 0, .int 0, .ref d1, .ref d2, .ref d3, .ref d4]))]) [0, 1, 2, 3, 4, 5, 6] rfl) (hD.sub (ws' := [(o0, .inr (11, [.ref o1, .int 0, .ref o2, .ref o3, .ref o4, .ref o5, .ref o6, .ref o7, .ref o8, .ref o9, .ref o10])), (o2, .inr (3, [.ref u1, .ref u2, .ref u3, .ref u4, .ref u5])), (u1, .inr (6, [.int 0, .ref u11, .ref u12, .ref u13, .ref u14, .ref u15, .ref u16, .ref u17])), (u2, .inr (4, [.int 0, .ref u21, .int 0, .ref u22, .ref u23, .ref u24])), (u3, .inr (10, [.int 0, .ref u31, .ref u32])), (u4, .inr (5, [.int 0, .int 0, .ref u41, .ref u42, .ref u43, .ref u44, .ref u45, .ref u46, .ref u47, .ref u48, .ref u49])), (o5, .inr (1, [.int 0, .int 0, .ref d1, .ref d2, .ref d3, .ref d4]))]) [0, 1, 2, 3, 4, 5, 6] (by decide) rfl) hS ⟨(by unfold nz_ab; (try first | rw [if_pos c_1] | rw [if_neg c_1] | rw [if_pos (Int32.not_le.mp c_1)] | rw [if_neg (Int32.not_lt.mpr c_1)] | rw [if_pos (Decidable.not_not.mp c_1)])), rfl⟩ d_NF_about_62
    · refine lv_tableIn (off := 62) (tgt := 63) hx hb d_NF_about_1 (by omega) (by omega) (by rw [hh]; rfl) (by decide) ?_
      refine lv_aload_n hx hb d_NF_about_63 rfl (lv_at hl 0 rfl) ?_
      refine va_get (D := D) (ci := 11) (v := .ref o2) (C := R_NF) (T := F_NF) (N := 11) hx hb hts i_NF hown hK.1 hP 0 rfl rfl 2 (by decide) (hts _ k_462) (fun _ h9 => h9) rfl d_NF_about_64 ?_
      refine va_get (D := D) (ci := 3) (v := .ref u2) (C := R_Land) (T := F_Land) (N := 5) hx hb hts i_Land hown hK.1 hP 1 rfl rfl 1 (by decide) (hts _ k_222) (fun _ h9 => h9) rfl d_NF_about_67 ?_
      refine va_get (D := D) (ci := 4) (v := .int 0) (C := R_Meanings) (T := F_Meanings) (N := 6) hx hb hts i_Meanings hown hK.1 hP 3 rfl rfl 0 (by decide) (hts _ k_94) (fun _ h9 => h9) rfl d_NF_about_70 ?_
      exact nz_reti C0 (hP.sub (ws' := [(o0, .inr (11, [.ref o1, .int 0, .ref o2, .ref o3, .ref o4, .ref o5, .ref o6, .ref o7, .ref o8, .ref o9, .ref o10])), (o2, .inr (3, [.ref u1, .ref u2, .ref u3, .ref u4, .ref u5])), (u1, .inr (6, [.int 0, .ref u11, .ref u12, .ref u13, .ref u14, .ref u15, .ref u16, .ref u17])), (u2, .inr (4, [.int 0, .ref u21, .int 0, .ref u22, .ref u23, .ref u24])), (u3, .inr (10, [.int 0, .ref u31, .ref u32])), (u4, .inr (5, [.int 0, .int 0, .ref u41, .ref u42, .ref u43, .ref u44, .ref u45, .ref u46, .ref u47, .ref u48, .ref u49])), (o5, .inr (1, [.int 0, .int 0, .ref d1, .ref d2, .ref d3, .ref d4]))]) [0, 1, 2, 3, 4, 5, 6] rfl) (hD.sub (ws' := [(o0, .inr (11, [.ref o1, .int 0, .ref o2, .ref o3, .ref o4, .ref o5, .ref o6, .ref o7, .ref o8, .ref o9, .ref o10])), (o2, .inr (3, [.ref u1, .ref u2, .ref u3, .ref u4, .ref u5])), (u1, .inr (6, [.int 0, .ref u11, .ref u12, .ref u13, .ref u14, .ref u15, .ref u16, .ref u17])), (u2, .inr (4, [.int 0, .ref u21, .int 0, .ref u22, .ref u23, .ref u24])), (u3, .inr (10, [.int 0, .ref u31, .ref u32])), (u4, .inr (5, [.int 0, .int 0, .ref u41, .ref u42, .ref u43, .ref u44, .ref u45, .ref u46, .ref u47, .ref u48, .ref u49])), (o5, .inr (1, [.int 0, .int 0, .ref d1, .ref d2, .ref d3, .ref d4]))]) [0, 1, 2, 3, 4, 5, 6] (by decide) rfl) hS ⟨(by unfold nz_ab; (try first | rw [if_pos c_1] | rw [if_neg c_1] | rw [if_pos (Int32.not_le.mp c_1)] | rw [if_neg (Int32.not_lt.mpr c_1)] | rw [if_pos (Decidable.not_not.mp c_1)])), rfl⟩ d_NF_about_73
    · refine lv_tableIn (off := 73) (tgt := 74) hx hb d_NF_about_1 (by omega) (by omega) (by rw [hh]; rfl) (by decide) ?_
      refine lv_aload_n hx hb d_NF_about_74 rfl (lv_at hl 0 rfl) ?_
      refine va_get (D := D) (ci := 11) (v := .ref o2) (C := R_NF) (T := F_NF) (N := 11) hx hb hts i_NF hown hK.1 hP 0 rfl rfl 2 (by decide) (hts _ k_462) (fun _ h9 => h9) rfl d_NF_about_75 ?_
      refine va_get (D := D) (ci := 3) (v := .ref u3) (C := R_Land) (T := F_Land) (N := 5) hx hb hts i_Land hown hK.1 hP 1 rfl rfl 2 (by decide) (hts _ k_225) (fun _ h9 => h9) rfl d_NF_about_78 ?_
      refine va_get (D := D) (ci := 10) (v := .int 0) (C := R_Words) (T := F_Words) (N := 3) hx hb hts i_Words hown hK.1 hP 4 rfl rfl 0 (by decide) (hts _ k_132) (fun _ h9 => h9) rfl d_NF_about_81 ?_
      exact nz_reti C0 (hP.sub (ws' := [(o0, .inr (11, [.ref o1, .int 0, .ref o2, .ref o3, .ref o4, .ref o5, .ref o6, .ref o7, .ref o8, .ref o9, .ref o10])), (o2, .inr (3, [.ref u1, .ref u2, .ref u3, .ref u4, .ref u5])), (u1, .inr (6, [.int 0, .ref u11, .ref u12, .ref u13, .ref u14, .ref u15, .ref u16, .ref u17])), (u2, .inr (4, [.int 0, .ref u21, .int 0, .ref u22, .ref u23, .ref u24])), (u3, .inr (10, [.int 0, .ref u31, .ref u32])), (u4, .inr (5, [.int 0, .int 0, .ref u41, .ref u42, .ref u43, .ref u44, .ref u45, .ref u46, .ref u47, .ref u48, .ref u49])), (o5, .inr (1, [.int 0, .int 0, .ref d1, .ref d2, .ref d3, .ref d4]))]) [0, 1, 2, 3, 4, 5, 6] rfl) (hD.sub (ws' := [(o0, .inr (11, [.ref o1, .int 0, .ref o2, .ref o3, .ref o4, .ref o5, .ref o6, .ref o7, .ref o8, .ref o9, .ref o10])), (o2, .inr (3, [.ref u1, .ref u2, .ref u3, .ref u4, .ref u5])), (u1, .inr (6, [.int 0, .ref u11, .ref u12, .ref u13, .ref u14, .ref u15, .ref u16, .ref u17])), (u2, .inr (4, [.int 0, .ref u21, .int 0, .ref u22, .ref u23, .ref u24])), (u3, .inr (10, [.int 0, .ref u31, .ref u32])), (u4, .inr (5, [.int 0, .int 0, .ref u41, .ref u42, .ref u43, .ref u44, .ref u45, .ref u46, .ref u47, .ref u48, .ref u49])), (o5, .inr (1, [.int 0, .int 0, .ref d1, .ref d2, .ref d3, .ref d4]))]) [0, 1, 2, 3, 4, 5, 6] (by decide) rfl) hS ⟨(by unfold nz_ab; (try first | rw [if_pos c_1] | rw [if_neg c_1] | rw [if_pos (Int32.not_le.mp c_1)] | rw [if_neg (Int32.not_lt.mpr c_1)] | rw [if_pos (Decidable.not_not.mp c_1)])), rfl⟩ d_NF_about_84
    · refine lv_tableIn (off := 84) (tgt := 85) hx hb d_NF_about_1 (by omega) (by omega) (by rw [hh]; rfl) (by decide) ?_
      refine lv_aload_n hx hb d_NF_about_85 rfl (lv_at hl 0 rfl) ?_
      refine va_get (D := D) (ci := 11) (v := .ref o2) (C := R_NF) (T := F_NF) (N := 11) hx hb hts i_NF hown hK.1 hP 0 rfl rfl 2 (by decide) (hts _ k_462) (fun _ h9 => h9) rfl d_NF_about_86 ?_
      refine va_get (D := D) (ci := 3) (v := .ref u2) (C := R_Land) (T := F_Land) (N := 5) hx hb hts i_Land hown hK.1 hP 1 rfl rfl 1 (by decide) (hts _ k_222) (fun _ h9 => h9) rfl d_NF_about_89 ?_
      refine va_get (D := D) (ci := 4) (v := .int 0) (C := R_Meanings) (T := F_Meanings) (N := 6) hx hb hts i_Meanings hown hK.1 hP 3 rfl rfl 2 (by decide) (hts _ k_100) (fun _ h9 => h9) rfl d_NF_about_92 ?_
      exact nz_reti C0 (hP.sub (ws' := [(o0, .inr (11, [.ref o1, .int 0, .ref o2, .ref o3, .ref o4, .ref o5, .ref o6, .ref o7, .ref o8, .ref o9, .ref o10])), (o2, .inr (3, [.ref u1, .ref u2, .ref u3, .ref u4, .ref u5])), (u1, .inr (6, [.int 0, .ref u11, .ref u12, .ref u13, .ref u14, .ref u15, .ref u16, .ref u17])), (u2, .inr (4, [.int 0, .ref u21, .int 0, .ref u22, .ref u23, .ref u24])), (u3, .inr (10, [.int 0, .ref u31, .ref u32])), (u4, .inr (5, [.int 0, .int 0, .ref u41, .ref u42, .ref u43, .ref u44, .ref u45, .ref u46, .ref u47, .ref u48, .ref u49])), (o5, .inr (1, [.int 0, .int 0, .ref d1, .ref d2, .ref d3, .ref d4]))]) [0, 1, 2, 3, 4, 5, 6] rfl) (hD.sub (ws' := [(o0, .inr (11, [.ref o1, .int 0, .ref o2, .ref o3, .ref o4, .ref o5, .ref o6, .ref o7, .ref o8, .ref o9, .ref o10])), (o2, .inr (3, [.ref u1, .ref u2, .ref u3, .ref u4, .ref u5])), (u1, .inr (6, [.int 0, .ref u11, .ref u12, .ref u13, .ref u14, .ref u15, .ref u16, .ref u17])), (u2, .inr (4, [.int 0, .ref u21, .int 0, .ref u22, .ref u23, .ref u24])), (u3, .inr (10, [.int 0, .ref u31, .ref u32])), (u4, .inr (5, [.int 0, .int 0, .ref u41, .ref u42, .ref u43, .ref u44, .ref u45, .ref u46, .ref u47, .ref u48, .ref u49])), (o5, .inr (1, [.int 0, .int 0, .ref d1, .ref d2, .ref d3, .ref d4]))]) [0, 1, 2, 3, 4, 5, 6] (by decide) rfl) hS ⟨(by unfold nz_ab; (try first | rw [if_pos c_1] | rw [if_neg c_1] | rw [if_pos (Int32.not_le.mp c_1)] | rw [if_neg (Int32.not_lt.mpr c_1)] | rw [if_pos (Decidable.not_not.mp c_1)])), rfl⟩ d_NF_about_95
    · refine lv_tableIn (off := 95) (tgt := 96) hx hb d_NF_about_1 (by omega) (by omega) (by rw [hh]; rfl) (by decide) ?_
      refine lv_aload_n hx hb d_NF_about_96 rfl (lv_at hl 0 rfl) ?_
      refine va_get (D := D) (ci := 11) (v := .ref o2) (C := R_NF) (T := F_NF) (N := 11) hx hb hts i_NF hown hK.1 hP 0 rfl rfl 2 (by decide) (hts _ k_462) (fun _ h9 => h9) rfl d_NF_about_97 ?_
      refine va_get (D := D) (ci := 3) (v := .ref u4) (C := R_Land) (T := F_Land) (N := 5) hx hb hts i_Land hown hK.1 hP 1 rfl rfl 3 (by decide) (hts _ k_231) (fun _ h9 => h9) rfl d_NF_about_100 ?_
      refine va_get (D := D) (ci := 5) (v := .int 0) (C := R_Persons) (T := F_Persons) (N := 11) hx hb hts i_Persons hown hK.1 hP 5 rfl rfl 0 (by decide) (hts _ k_158) (fun _ h9 => h9) rfl d_NF_about_103 ?_
      exact nz_reti C0 (hP.sub (ws' := [(o0, .inr (11, [.ref o1, .int 0, .ref o2, .ref o3, .ref o4, .ref o5, .ref o6, .ref o7, .ref o8, .ref o9, .ref o10])), (o2, .inr (3, [.ref u1, .ref u2, .ref u3, .ref u4, .ref u5])), (u1, .inr (6, [.int 0, .ref u11, .ref u12, .ref u13, .ref u14, .ref u15, .ref u16, .ref u17])), (u2, .inr (4, [.int 0, .ref u21, .int 0, .ref u22, .ref u23, .ref u24])), (u3, .inr (10, [.int 0, .ref u31, .ref u32])), (u4, .inr (5, [.int 0, .int 0, .ref u41, .ref u42, .ref u43, .ref u44, .ref u45, .ref u46, .ref u47, .ref u48, .ref u49])), (o5, .inr (1, [.int 0, .int 0, .ref d1, .ref d2, .ref d3, .ref d4]))]) [0, 1, 2, 3, 4, 5, 6] rfl) (hD.sub (ws' := [(o0, .inr (11, [.ref o1, .int 0, .ref o2, .ref o3, .ref o4, .ref o5, .ref o6, .ref o7, .ref o8, .ref o9, .ref o10])), (o2, .inr (3, [.ref u1, .ref u2, .ref u3, .ref u4, .ref u5])), (u1, .inr (6, [.int 0, .ref u11, .ref u12, .ref u13, .ref u14, .ref u15, .ref u16, .ref u17])), (u2, .inr (4, [.int 0, .ref u21, .int 0, .ref u22, .ref u23, .ref u24])), (u3, .inr (10, [.int 0, .ref u31, .ref u32])), (u4, .inr (5, [.int 0, .int 0, .ref u41, .ref u42, .ref u43, .ref u44, .ref u45, .ref u46, .ref u47, .ref u48, .ref u49])), (o5, .inr (1, [.int 0, .int 0, .ref d1, .ref d2, .ref d3, .ref d4]))]) [0, 1, 2, 3, 4, 5, 6] (by decide) rfl) hS ⟨(by unfold nz_ab; (try first | rw [if_pos c_1] | rw [if_neg c_1] | rw [if_pos (Int32.not_le.mp c_1)] | rw [if_neg (Int32.not_lt.mpr c_1)] | rw [if_pos (Decidable.not_not.mp c_1)])), rfl⟩ d_NF_about_106
    · refine lv_tableIn (off := 106) (tgt := 107) hx hb d_NF_about_1 (by omega) (by omega) (by rw [hh]; rfl) (by decide) ?_
      refine lv_aload_n hx hb d_NF_about_107 rfl (lv_at hl 0 rfl) ?_
      refine va_get (D := D) (ci := 11) (v := .ref o2) (C := R_NF) (T := F_NF) (N := 11) hx hb hts i_NF hown hK.1 hP 0 rfl rfl 2 (by decide) (hts _ k_462) (fun _ h9 => h9) rfl d_NF_about_108 ?_
      refine va_get (D := D) (ci := 3) (v := .ref u4) (C := R_Land) (T := F_Land) (N := 5) hx hb hts i_Land hown hK.1 hP 1 rfl rfl 3 (by decide) (hts _ k_231) (fun _ h9 => h9) rfl d_NF_about_111 ?_
      refine va_get (D := D) (ci := 5) (v := .int 0) (C := R_Persons) (T := F_Persons) (N := 11) hx hb hts i_Persons hown hK.1 hP 5 rfl rfl 1 (by decide) (hts _ k_161) (fun _ h9 => h9) rfl d_NF_about_114 ?_
      exact nz_reti C0 (hP.sub (ws' := [(o0, .inr (11, [.ref o1, .int 0, .ref o2, .ref o3, .ref o4, .ref o5, .ref o6, .ref o7, .ref o8, .ref o9, .ref o10])), (o2, .inr (3, [.ref u1, .ref u2, .ref u3, .ref u4, .ref u5])), (u1, .inr (6, [.int 0, .ref u11, .ref u12, .ref u13, .ref u14, .ref u15, .ref u16, .ref u17])), (u2, .inr (4, [.int 0, .ref u21, .int 0, .ref u22, .ref u23, .ref u24])), (u3, .inr (10, [.int 0, .ref u31, .ref u32])), (u4, .inr (5, [.int 0, .int 0, .ref u41, .ref u42, .ref u43, .ref u44, .ref u45, .ref u46, .ref u47, .ref u48, .ref u49])), (o5, .inr (1, [.int 0, .int 0, .ref d1, .ref d2, .ref d3, .ref d4]))]) [0, 1, 2, 3, 4, 5, 6] rfl) (hD.sub (ws' := [(o0, .inr (11, [.ref o1, .int 0, .ref o2, .ref o3, .ref o4, .ref o5, .ref o6, .ref o7, .ref o8, .ref o9, .ref o10])), (o2, .inr (3, [.ref u1, .ref u2, .ref u3, .ref u4, .ref u5])), (u1, .inr (6, [.int 0, .ref u11, .ref u12, .ref u13, .ref u14, .ref u15, .ref u16, .ref u17])), (u2, .inr (4, [.int 0, .ref u21, .int 0, .ref u22, .ref u23, .ref u24])), (u3, .inr (10, [.int 0, .ref u31, .ref u32])), (u4, .inr (5, [.int 0, .int 0, .ref u41, .ref u42, .ref u43, .ref u44, .ref u45, .ref u46, .ref u47, .ref u48, .ref u49])), (o5, .inr (1, [.int 0, .int 0, .ref d1, .ref d2, .ref d3, .ref d4]))]) [0, 1, 2, 3, 4, 5, 6] (by decide) rfl) hS ⟨(by unfold nz_ab; (try first | rw [if_pos c_1] | rw [if_neg c_1] | rw [if_pos (Int32.not_le.mp c_1)] | rw [if_neg (Int32.not_lt.mpr c_1)] | rw [if_pos (Decidable.not_not.mp c_1)])), rfl⟩ d_NF_about_117
    · refine lv_tableIn (off := 117) (tgt := 118) hx hb d_NF_about_1 (by omega) (by omega) (by rw [hh]; rfl) (by decide) ?_
      refine lv_aload_n hx hb d_NF_about_118 rfl (lv_at hl 0 rfl) ?_
      refine va_get (D := D) (ci := 11) (v := .ref o5) (C := R_NF) (T := F_NF) (N := 11) hx hb hts i_NF hown hK.1 hP 0 rfl rfl 5 (by decide) (hts _ k_465) (fun _ h9 => h9) rfl d_NF_about_119 ?_
      refine va_get (D := D) (ci := 1) (v := .int 0) (C := R_Deaths) (T := F_Deaths) (N := 6) hx hb hts i_Deaths hown hK.1 hP 6 rfl rfl 0 (by decide) (hts _ k_394) (fun _ h9 => h9) rfl d_NF_about_122 ?_
      exact nz_reti C0 (hP.sub (ws' := [(o0, .inr (11, [.ref o1, .int 0, .ref o2, .ref o3, .ref o4, .ref o5, .ref o6, .ref o7, .ref o8, .ref o9, .ref o10])), (o2, .inr (3, [.ref u1, .ref u2, .ref u3, .ref u4, .ref u5])), (u1, .inr (6, [.int 0, .ref u11, .ref u12, .ref u13, .ref u14, .ref u15, .ref u16, .ref u17])), (u2, .inr (4, [.int 0, .ref u21, .int 0, .ref u22, .ref u23, .ref u24])), (u3, .inr (10, [.int 0, .ref u31, .ref u32])), (u4, .inr (5, [.int 0, .int 0, .ref u41, .ref u42, .ref u43, .ref u44, .ref u45, .ref u46, .ref u47, .ref u48, .ref u49])), (o5, .inr (1, [.int 0, .int 0, .ref d1, .ref d2, .ref d3, .ref d4]))]) [0, 1, 2, 3, 4, 5, 6] rfl) (hD.sub (ws' := [(o0, .inr (11, [.ref o1, .int 0, .ref o2, .ref o3, .ref o4, .ref o5, .ref o6, .ref o7, .ref o8, .ref o9, .ref o10])), (o2, .inr (3, [.ref u1, .ref u2, .ref u3, .ref u4, .ref u5])), (u1, .inr (6, [.int 0, .ref u11, .ref u12, .ref u13, .ref u14, .ref u15, .ref u16, .ref u17])), (u2, .inr (4, [.int 0, .ref u21, .int 0, .ref u22, .ref u23, .ref u24])), (u3, .inr (10, [.int 0, .ref u31, .ref u32])), (u4, .inr (5, [.int 0, .int 0, .ref u41, .ref u42, .ref u43, .ref u44, .ref u45, .ref u46, .ref u47, .ref u48, .ref u49])), (o5, .inr (1, [.int 0, .int 0, .ref d1, .ref d2, .ref d3, .ref d4]))]) [0, 1, 2, 3, 4, 5, 6] (by decide) rfl) hS ⟨(by unfold nz_ab; (try first | rw [if_pos c_1] | rw [if_neg c_1] | rw [if_pos (Int32.not_le.mp c_1)] | rw [if_neg (Int32.not_lt.mpr c_1)] | rw [if_pos (Decidable.not_not.mp c_1)])), rfl⟩ d_NF_about_125
    · refine lv_tableIn (off := 125) (tgt := 126) hx hb d_NF_about_1 (by omega) (by omega) (by rw [hh]; rfl) (by decide) ?_
      refine lv_aload_n hx hb d_NF_about_126 rfl (lv_at hl 0 rfl) ?_
      refine va_get (D := D) (ci := 11) (v := .ref o5) (C := R_NF) (T := F_NF) (N := 11) hx hb hts i_NF hown hK.1 hP 0 rfl rfl 5 (by decide) (hts _ k_465) (fun _ h9 => h9) rfl d_NF_about_127 ?_
      refine va_get (D := D) (ci := 1) (v := .int 0) (C := R_Deaths) (T := F_Deaths) (N := 6) hx hb hts i_Deaths hown hK.1 hP 6 rfl rfl 1 (by decide) (hts _ k_396) (fun _ h9 => h9) rfl d_NF_about_130 ?_
      exact nz_reti C0 (hP.sub (ws' := [(o0, .inr (11, [.ref o1, .int 0, .ref o2, .ref o3, .ref o4, .ref o5, .ref o6, .ref o7, .ref o8, .ref o9, .ref o10])), (o2, .inr (3, [.ref u1, .ref u2, .ref u3, .ref u4, .ref u5])), (u1, .inr (6, [.int 0, .ref u11, .ref u12, .ref u13, .ref u14, .ref u15, .ref u16, .ref u17])), (u2, .inr (4, [.int 0, .ref u21, .int 0, .ref u22, .ref u23, .ref u24])), (u3, .inr (10, [.int 0, .ref u31, .ref u32])), (u4, .inr (5, [.int 0, .int 0, .ref u41, .ref u42, .ref u43, .ref u44, .ref u45, .ref u46, .ref u47, .ref u48, .ref u49])), (o5, .inr (1, [.int 0, .int 0, .ref d1, .ref d2, .ref d3, .ref d4]))]) [0, 1, 2, 3, 4, 5, 6] rfl) (hD.sub (ws' := [(o0, .inr (11, [.ref o1, .int 0, .ref o2, .ref o3, .ref o4, .ref o5, .ref o6, .ref o7, .ref o8, .ref o9, .ref o10])), (o2, .inr (3, [.ref u1, .ref u2, .ref u3, .ref u4, .ref u5])), (u1, .inr (6, [.int 0, .ref u11, .ref u12, .ref u13, .ref u14, .ref u15, .ref u16, .ref u17])), (u2, .inr (4, [.int 0, .ref u21, .int 0, .ref u22, .ref u23, .ref u24])), (u3, .inr (10, [.int 0, .ref u31, .ref u32])), (u4, .inr (5, [.int 0, .int 0, .ref u41, .ref u42, .ref u43, .ref u44, .ref u45, .ref u46, .ref u47, .ref u48, .ref u49])), (o5, .inr (1, [.int 0, .int 0, .ref d1, .ref d2, .ref d3, .ref d4]))]) [0, 1, 2, 3, 4, 5, 6] (by decide) rfl) hS ⟨(by unfold nz_ab; (try first | rw [if_pos c_1] | rw [if_neg c_1] | rw [if_pos (Int32.not_le.mp c_1)] | rw [if_neg (Int32.not_lt.mpr c_1)] | rw [if_pos (Decidable.not_not.mp c_1)])), rfl⟩ d_NF_about_133
    · refine lv_tableIn (off := 133) (tgt := 134) hx hb d_NF_about_1 (by omega) (by omega) (by rw [hh]; rfl) (by decide) ?_
      refine lv_aload_n hx hb d_NF_about_134 rfl (lv_at hl 0 rfl) ?_
      refine va_get (D := D) (ci := 11) (v := .int 0) (C := R_NF) (T := F_NF) (N := 11) hx hb hts i_NF hown hK.1 hP 0 rfl rfl 1 (by decide) (hts _ k_461) (fun _ h9 => h9) rfl d_NF_about_135 ?_
      exact nz_reti C0 (hP.sub (ws' := [(o0, .inr (11, [.ref o1, .int 0, .ref o2, .ref o3, .ref o4, .ref o5, .ref o6, .ref o7, .ref o8, .ref o9, .ref o10])), (o2, .inr (3, [.ref u1, .ref u2, .ref u3, .ref u4, .ref u5])), (u1, .inr (6, [.int 0, .ref u11, .ref u12, .ref u13, .ref u14, .ref u15, .ref u16, .ref u17])), (u2, .inr (4, [.int 0, .ref u21, .int 0, .ref u22, .ref u23, .ref u24])), (u3, .inr (10, [.int 0, .ref u31, .ref u32])), (u4, .inr (5, [.int 0, .int 0, .ref u41, .ref u42, .ref u43, .ref u44, .ref u45, .ref u46, .ref u47, .ref u48, .ref u49])), (o5, .inr (1, [.int 0, .int 0, .ref d1, .ref d2, .ref d3, .ref d4]))]) [0, 1, 2, 3, 4, 5, 6] rfl) (hD.sub (ws' := [(o0, .inr (11, [.ref o1, .int 0, .ref o2, .ref o3, .ref o4, .ref o5, .ref o6, .ref o7, .ref o8, .ref o9, .ref o10])), (o2, .inr (3, [.ref u1, .ref u2, .ref u3, .ref u4, .ref u5])), (u1, .inr (6, [.int 0, .ref u11, .ref u12, .ref u13, .ref u14, .ref u15, .ref u16, .ref u17])), (u2, .inr (4, [.int 0, .ref u21, .int 0, .ref u22, .ref u23, .ref u24])), (u3, .inr (10, [.int 0, .ref u31, .ref u32])), (u4, .inr (5, [.int 0, .int 0, .ref u41, .ref u42, .ref u43, .ref u44, .ref u45, .ref u46, .ref u47, .ref u48, .ref u49])), (o5, .inr (1, [.int 0, .int 0, .ref d1, .ref d2, .ref d3, .ref d4]))]) [0, 1, 2, 3, 4, 5, 6] (by decide) rfl) hS ⟨(by unfold nz_ab; (try first | rw [if_pos c_1] | rw [if_neg c_1] | rw [if_pos (Int32.not_le.mp c_1)] | rw [if_neg (Int32.not_lt.mpr c_1)] | rw [if_pos (Decidable.not_not.mp c_1)])), rfl⟩ d_NF_about_138
set_option maxHeartbeats 4000000 in
set_option maxRecDepth 100000 in
theorem c_NF_putBytes_0 (l : Launch) (D : va_G) (cB cI cJ : ClassId) (o0 : Nat) (p0 : Int32) (o1 : Nat) (o2 : Nat) (o3 : Nat) (o4 : Nat) (o5 : Nat) (o6 : Nat) (o7 : Nat) (o8 : Nat) (o9 : Nat) (o10 : Nat) (ft : Nat → Int32) : nz_Cv l D cB cI cJ nz_x0 y_NF_putBytes b_NF_putBytes 3 none { frames := 0, cells := 0, slots := 0, locals := 0 } [.ref o0, .int p0] [(o0, .inr (11, [.ref o1, .int 0, .ref o2, .ref o3, .ref o4, .ref o5, .ref o6, .ref o7, .ref o8, .ref o9, .ref o10])), (o1, .inl (cB, 1600, .inl ft))] (fun w => ∃ (zf : Nat → Int32), w = [(o0, .inr (11, [.ref o1, .int 4, .ref o2, .ref o3, .ref o4, .ref o5, .ref o6, .ref o7, .ref o8, .ref o9, .ref o10])), (o1, .inl (cB, 1600, .inl zf))]) := by
  refine nz_Cv.mk (by decide) (Nat.le_of_ble_eq_true rfl) ?_
  intro p e s m below meth c A ls C0 hnm hP hD hS hA hX hl
  have C0 : nz_Cx p s m _ meth c b_NF_putBytes 3 none R_NF D cB cI cJ := C0
  obtain ⟨hx, hb, hr, hml, hown, hts, hlk, hK⟩ := id C0
  have hl : lv_has ls 3 [(0, .ref o0), (1, .int p0)] := hl
  refine lv_bipush (v := 24) hx hb d_NF_putBytes_0 (by decide +kernel) ?_
  refine lv_istore_n (lv' := [(2, .int 24), (0, .ref o0), (1, .int p0)]) hx hb d_NF_putBytes_2 rfl hl (by decide) rfl (fun ls hl => ?_)
  refine lv_iload_n hx hb d_NF_putBytes_3 rfl (lv_at hl 0 rfl) ?_
  refine lv_if_lt (tgt := 48) hx hb d_NF_putBytes_4 (by decide) (fun c_1 => absurd c_1 (by decide +kernel)) (fun c_1 => ?_)
  refine lv_aload_n hx hb d_NF_putBytes_7 rfl (lv_at hl 1 rfl) ?_
  refine va_get (D := D) (ci := 11) (v := .int 0) (C := R_NF) (T := F_NF) (N := 11) hx hb hts i_NF hown hK.1 hP 0 rfl rfl 1 (by decide) (hts _ k_461) (fun _ h9 => h9) rfl d_NF_putBytes_8 ?_
  refine lv_aload_n hx hb d_NF_putBytes_11 rfl (lv_at hl 1 rfl) ?_
  refine va_get (D := D) (ci := 11) (v := .ref o1) (C := R_NF) (T := F_NF) (N := 11) hx hb hts i_NF hown hK.1 hP 0 rfl rfl 0 (by decide) (hts _ k_460) (fun _ h9 => h9) rfl d_NF_putBytes_12 ?_
  refine va_alen (v := 1600) hx hb hK.1 hP 1 0 rfl rfl rfl d_NF_putBytes_15 ?_
  refine lv_icmp_ge (tgt := 42) hx hb d_NF_putBytes_16 (by decide) (fun c_2 => absurd c_2 (by decide +kernel)) (fun c_2 => ?_)
  refine lv_aload_n hx hb d_NF_putBytes_19 rfl (lv_at hl 1 rfl) ?_
  refine va_get (D := D) (ci := 11) (v := .ref o1) (C := R_NF) (T := F_NF) (N := 11) hx hb hts i_NF hown hK.1 hP 0 rfl rfl 0 (by decide) (hts _ k_460) (fun _ h9 => h9) rfl d_NF_putBytes_20 ?_
  refine lv_aload_n hx hb d_NF_putBytes_23 rfl (lv_at hl 1 rfl) ?_
  refine va_get (D := D) (ci := 11) (v := .int 0) (C := R_NF) (T := F_NF) (N := 11) hx hb hts i_NF hown hK.1 hP 0 rfl rfl 1 (by decide) (hts _ k_461) (fun _ h9 => h9) rfl d_NF_putBytes_24 ?_
  refine lv_iload_n hx hb d_NF_putBytes_27 rfl (lv_at hl 2 rfl) ?_
  refine lv_iload_n hx hb d_NF_putBytes_28 rfl (lv_at hl 0 rfl) ?_
  refine lv_ishr hx hb d_NF_putBytes_29 ?_
  refine lv_topi (fun x_3 e_4 => ?_)
  refine lv_i2b (v := x_3.toInt8.toInt32) hx hb d_NF_putBytes_30 rfl ?_
  refine lv_topi (fun x_6 e_7 => ?_)
  refine nz_bastE hx hb hK.1 hP hD hS 1 0 rfl rfl (nz_vin (by decide +kernel)) d_NF_putBytes_31 (fun H locs f_8 f_8_e hP hD hS => ?_)
  have hP : va_P D nz_cl [(o0, .inr (11, [.ref o1, .int 0, .ref o2, .ref o3, .ref o4, .ref o5, .ref o6, .ref o7, .ref o8, .ref o9, .ref o10])), (o1, .inl (cB, 1600, .inl f_8))] H := hP
  have hD : va_D A [(o0, .inr (11, [.ref o1, .int 0, .ref o2, .ref o3, .ref o4, .ref o5, .ref o6, .ref o7, .ref o8, .ref o9, .ref o10])), (o1, .inl (cB, 1600, .inl f_8))] := hD
  refine lv_aload_n hx hb d_NF_putBytes_32 rfl (lv_at hl 1 rfl) ?_
  refine lv_dup hx hb d_NF_putBytes_33 rfl ?_
  refine va_get (D := D) (ci := 11) (v := .int 0) (C := R_NF) (T := F_NF) (N := 11) hx hb hts i_NF hown hK.1 hP 0 rfl rfl 1 (by decide) (hts _ k_461) (fun _ h9 => h9) rfl d_NF_putBytes_34 ?_
  refine lv_iconst (v := 1) hx hb d_NF_putBytes_37 (by decide +kernel) ?_
  refine lv_iadd hx hb d_NF_putBytes_38 ?_
  refine nz_ctopi (v := 1) (by decide +kernel) ?_
  refine va_put (D := D) (ci := 11) (v := .int 1) (ty := .int) (C := R_NF) (T := F_NF) (N := 11) hx hb hts i_NF t_NF t_NF_ok n_NF hown hK.1 hP hD hS 0 rfl rfl 1 (by decide) (hts _ k_461) (fun _ h9 => h9) rfl (by decide +kernel) rfl rfl (Nat.le_of_ble_eq_true rfl) d_NF_putBytes_39 (fun H locs hP hD hS => ?_)
  have hP : va_P D nz_cl [(o0, .inr (11, [.ref o1, .int 1, .ref o2, .ref o3, .ref o4, .ref o5, .ref o6, .ref o7, .ref o8, .ref o9, .ref o10])), (o1, .inl (cB, 1600, .inl f_8))] H := hP
  have hD : va_D A [(o0, .inr (11, [.ref o1, .int 1, .ref o2, .ref o3, .ref o4, .ref o5, .ref o6, .ref o7, .ref o8, .ref o9, .ref o10])), (o1, .inl (cB, 1600, .inl f_8))] := hD
  refine lv_iinc (v := 16) (lv' := [(2, .int 16), (0, .ref o0), (1, .int p0)]) hx hb d_NF_putBytes_42 hl (k := 0) rfl (by decide +kernel) (by decide) rfl (fun ls hl => ?_)
  refine lv_goto (tgt := 3) hx hb d_NF_putBytes_45 (by decide) ?_
  refine lv_iload_n hx hb d_NF_putBytes_3 rfl (lv_at hl 0 rfl) ?_
  refine lv_if_lt (tgt := 48) hx hb d_NF_putBytes_4 (by decide) (fun c_9 => absurd c_9 (by decide +kernel)) (fun c_9 => ?_)
  refine lv_aload_n hx hb d_NF_putBytes_7 rfl (lv_at hl 1 rfl) ?_
  refine va_get (D := D) (ci := 11) (v := .int 1) (C := R_NF) (T := F_NF) (N := 11) hx hb hts i_NF hown hK.1 hP 0 rfl rfl 1 (by decide) (hts _ k_461) (fun _ h9 => h9) rfl d_NF_putBytes_8 ?_
  refine lv_aload_n hx hb d_NF_putBytes_11 rfl (lv_at hl 1 rfl) ?_
  refine va_get (D := D) (ci := 11) (v := .ref o1) (C := R_NF) (T := F_NF) (N := 11) hx hb hts i_NF hown hK.1 hP 0 rfl rfl 0 (by decide) (hts _ k_460) (fun _ h9 => h9) rfl d_NF_putBytes_12 ?_
  refine va_alen (v := 1600) hx hb hK.1 hP 1 0 rfl rfl rfl d_NF_putBytes_15 ?_
  refine lv_icmp_ge (tgt := 42) hx hb d_NF_putBytes_16 (by decide) (fun c_10 => absurd c_10 (by decide +kernel)) (fun c_10 => ?_)
  refine lv_aload_n hx hb d_NF_putBytes_19 rfl (lv_at hl 1 rfl) ?_
  refine va_get (D := D) (ci := 11) (v := .ref o1) (C := R_NF) (T := F_NF) (N := 11) hx hb hts i_NF hown hK.1 hP 0 rfl rfl 0 (by decide) (hts _ k_460) (fun _ h9 => h9) rfl d_NF_putBytes_20 ?_
  refine lv_aload_n hx hb d_NF_putBytes_23 rfl (lv_at hl 1 rfl) ?_
  refine va_get (D := D) (ci := 11) (v := .int 1) (C := R_NF) (T := F_NF) (N := 11) hx hb hts i_NF hown hK.1 hP 0 rfl rfl 1 (by decide) (hts _ k_461) (fun _ h9 => h9) rfl d_NF_putBytes_24 ?_
  refine lv_iload_n hx hb d_NF_putBytes_27 rfl (lv_at hl 2 rfl) ?_
  refine lv_iload_n hx hb d_NF_putBytes_28 rfl (lv_at hl 0 rfl) ?_
  refine lv_ishr hx hb d_NF_putBytes_29 ?_
  refine lv_topi (fun x_11 e_12 => ?_)
  refine lv_i2b (v := x_11.toInt8.toInt32) hx hb d_NF_putBytes_30 rfl ?_
  refine lv_topi (fun x_14 e_15 => ?_)
  refine nz_bastE hx hb hK.1 hP hD hS 1 0 rfl rfl (nz_vin (by decide +kernel)) d_NF_putBytes_31 (fun H locs f_16 f_16_e hP hD hS => ?_)
  have hP : va_P D nz_cl [(o0, .inr (11, [.ref o1, .int 1, .ref o2, .ref o3, .ref o4, .ref o5, .ref o6, .ref o7, .ref o8, .ref o9, .ref o10])), (o1, .inl (cB, 1600, .inl f_16))] H := hP
  have hD : va_D A [(o0, .inr (11, [.ref o1, .int 1, .ref o2, .ref o3, .ref o4, .ref o5, .ref o6, .ref o7, .ref o8, .ref o9, .ref o10])), (o1, .inl (cB, 1600, .inl f_16))] := hD
  refine lv_aload_n hx hb d_NF_putBytes_32 rfl (lv_at hl 1 rfl) ?_
  refine lv_dup hx hb d_NF_putBytes_33 rfl ?_
  refine va_get (D := D) (ci := 11) (v := .int 1) (C := R_NF) (T := F_NF) (N := 11) hx hb hts i_NF hown hK.1 hP 0 rfl rfl 1 (by decide) (hts _ k_461) (fun _ h9 => h9) rfl d_NF_putBytes_34 ?_
  refine lv_iconst (v := 1) hx hb d_NF_putBytes_37 (by decide +kernel) ?_
  refine lv_iadd hx hb d_NF_putBytes_38 ?_
  refine nz_ctopi (v := 2) (by decide +kernel) ?_
  refine va_put (D := D) (ci := 11) (v := .int 2) (ty := .int) (C := R_NF) (T := F_NF) (N := 11) hx hb hts i_NF t_NF t_NF_ok n_NF hown hK.1 hP hD hS 0 rfl rfl 1 (by decide) (hts _ k_461) (fun _ h9 => h9) rfl (by decide +kernel) rfl rfl (Nat.le_of_ble_eq_true rfl) d_NF_putBytes_39 (fun H locs hP hD hS => ?_)
  have hP : va_P D nz_cl [(o0, .inr (11, [.ref o1, .int 2, .ref o2, .ref o3, .ref o4, .ref o5, .ref o6, .ref o7, .ref o8, .ref o9, .ref o10])), (o1, .inl (cB, 1600, .inl f_16))] H := hP
  have hD : va_D A [(o0, .inr (11, [.ref o1, .int 2, .ref o2, .ref o3, .ref o4, .ref o5, .ref o6, .ref o7, .ref o8, .ref o9, .ref o10])), (o1, .inl (cB, 1600, .inl f_16))] := hD
  refine lv_iinc (v := 8) (lv' := [(2, .int 8), (0, .ref o0), (1, .int p0)]) hx hb d_NF_putBytes_42 hl (k := 0) rfl (by decide +kernel) (by decide) rfl (fun ls hl => ?_)
  refine lv_goto (tgt := 3) hx hb d_NF_putBytes_45 (by decide) ?_
  refine lv_iload_n hx hb d_NF_putBytes_3 rfl (lv_at hl 0 rfl) ?_
  refine lv_if_lt (tgt := 48) hx hb d_NF_putBytes_4 (by decide) (fun c_17 => absurd c_17 (by decide +kernel)) (fun c_17 => ?_)
  refine lv_aload_n hx hb d_NF_putBytes_7 rfl (lv_at hl 1 rfl) ?_
  refine va_get (D := D) (ci := 11) (v := .int 2) (C := R_NF) (T := F_NF) (N := 11) hx hb hts i_NF hown hK.1 hP 0 rfl rfl 1 (by decide) (hts _ k_461) (fun _ h9 => h9) rfl d_NF_putBytes_8 ?_
  refine lv_aload_n hx hb d_NF_putBytes_11 rfl (lv_at hl 1 rfl) ?_
  refine va_get (D := D) (ci := 11) (v := .ref o1) (C := R_NF) (T := F_NF) (N := 11) hx hb hts i_NF hown hK.1 hP 0 rfl rfl 0 (by decide) (hts _ k_460) (fun _ h9 => h9) rfl d_NF_putBytes_12 ?_
  refine va_alen (v := 1600) hx hb hK.1 hP 1 0 rfl rfl rfl d_NF_putBytes_15 ?_
  refine lv_icmp_ge (tgt := 42) hx hb d_NF_putBytes_16 (by decide) (fun c_18 => absurd c_18 (by decide +kernel)) (fun c_18 => ?_)
  refine lv_aload_n hx hb d_NF_putBytes_19 rfl (lv_at hl 1 rfl) ?_
  refine va_get (D := D) (ci := 11) (v := .ref o1) (C := R_NF) (T := F_NF) (N := 11) hx hb hts i_NF hown hK.1 hP 0 rfl rfl 0 (by decide) (hts _ k_460) (fun _ h9 => h9) rfl d_NF_putBytes_20 ?_
  refine lv_aload_n hx hb d_NF_putBytes_23 rfl (lv_at hl 1 rfl) ?_
  refine va_get (D := D) (ci := 11) (v := .int 2) (C := R_NF) (T := F_NF) (N := 11) hx hb hts i_NF hown hK.1 hP 0 rfl rfl 1 (by decide) (hts _ k_461) (fun _ h9 => h9) rfl d_NF_putBytes_24 ?_
  refine lv_iload_n hx hb d_NF_putBytes_27 rfl (lv_at hl 2 rfl) ?_
  refine lv_iload_n hx hb d_NF_putBytes_28 rfl (lv_at hl 0 rfl) ?_
  refine lv_ishr hx hb d_NF_putBytes_29 ?_
  refine lv_topi (fun x_19 e_20 => ?_)
  refine lv_i2b (v := x_19.toInt8.toInt32) hx hb d_NF_putBytes_30 rfl ?_
  refine lv_topi (fun x_22 e_23 => ?_)
  refine nz_bastE hx hb hK.1 hP hD hS 1 0 rfl rfl (nz_vin (by decide +kernel)) d_NF_putBytes_31 (fun H locs f_24 f_24_e hP hD hS => ?_)
  have hP : va_P D nz_cl [(o0, .inr (11, [.ref o1, .int 2, .ref o2, .ref o3, .ref o4, .ref o5, .ref o6, .ref o7, .ref o8, .ref o9, .ref o10])), (o1, .inl (cB, 1600, .inl f_24))] H := hP
  have hD : va_D A [(o0, .inr (11, [.ref o1, .int 2, .ref o2, .ref o3, .ref o4, .ref o5, .ref o6, .ref o7, .ref o8, .ref o9, .ref o10])), (o1, .inl (cB, 1600, .inl f_24))] := hD
  refine lv_aload_n hx hb d_NF_putBytes_32 rfl (lv_at hl 1 rfl) ?_
  refine lv_dup hx hb d_NF_putBytes_33 rfl ?_
  refine va_get (D := D) (ci := 11) (v := .int 2) (C := R_NF) (T := F_NF) (N := 11) hx hb hts i_NF hown hK.1 hP 0 rfl rfl 1 (by decide) (hts _ k_461) (fun _ h9 => h9) rfl d_NF_putBytes_34 ?_
  refine lv_iconst (v := 1) hx hb d_NF_putBytes_37 (by decide +kernel) ?_
  refine lv_iadd hx hb d_NF_putBytes_38 ?_
  refine nz_ctopi (v := 3) (by decide +kernel) ?_
  refine va_put (D := D) (ci := 11) (v := .int 3) (ty := .int) (C := R_NF) (T := F_NF) (N := 11) hx hb hts i_NF t_NF t_NF_ok n_NF hown hK.1 hP hD hS 0 rfl rfl 1 (by decide) (hts _ k_461) (fun _ h9 => h9) rfl (by decide +kernel) rfl rfl (Nat.le_of_ble_eq_true rfl) d_NF_putBytes_39 (fun H locs hP hD hS => ?_)
  have hP : va_P D nz_cl [(o0, .inr (11, [.ref o1, .int 3, .ref o2, .ref o3, .ref o4, .ref o5, .ref o6, .ref o7, .ref o8, .ref o9, .ref o10])), (o1, .inl (cB, 1600, .inl f_24))] H := hP
  have hD : va_D A [(o0, .inr (11, [.ref o1, .int 3, .ref o2, .ref o3, .ref o4, .ref o5, .ref o6, .ref o7, .ref o8, .ref o9, .ref o10])), (o1, .inl (cB, 1600, .inl f_24))] := hD
  refine lv_iinc (v := 0) (lv' := [(2, .int 0), (0, .ref o0), (1, .int p0)]) hx hb d_NF_putBytes_42 hl (k := 0) rfl (by decide +kernel) (by decide) rfl (fun ls hl => ?_)
  refine lv_goto (tgt := 3) hx hb d_NF_putBytes_45 (by decide) ?_
  refine lv_iload_n hx hb d_NF_putBytes_3 rfl (lv_at hl 0 rfl) ?_
  refine lv_if_lt (tgt := 48) hx hb d_NF_putBytes_4 (by decide) (fun c_25 => absurd c_25 (by decide +kernel)) (fun c_25 => ?_)
  refine lv_aload_n hx hb d_NF_putBytes_7 rfl (lv_at hl 1 rfl) ?_
  refine va_get (D := D) (ci := 11) (v := .int 3) (C := R_NF) (T := F_NF) (N := 11) hx hb hts i_NF hown hK.1 hP 0 rfl rfl 1 (by decide) (hts _ k_461) (fun _ h9 => h9) rfl d_NF_putBytes_8 ?_
  refine lv_aload_n hx hb d_NF_putBytes_11 rfl (lv_at hl 1 rfl) ?_
  refine va_get (D := D) (ci := 11) (v := .ref o1) (C := R_NF) (T := F_NF) (N := 11) hx hb hts i_NF hown hK.1 hP 0 rfl rfl 0 (by decide) (hts _ k_460) (fun _ h9 => h9) rfl d_NF_putBytes_12 ?_
  refine va_alen (v := 1600) hx hb hK.1 hP 1 0 rfl rfl rfl d_NF_putBytes_15 ?_
  refine lv_icmp_ge (tgt := 42) hx hb d_NF_putBytes_16 (by decide) (fun c_26 => absurd c_26 (by decide +kernel)) (fun c_26 => ?_)
  refine lv_aload_n hx hb d_NF_putBytes_19 rfl (lv_at hl 1 rfl) ?_
  refine va_get (D := D) (ci := 11) (v := .ref o1) (C := R_NF) (T := F_NF) (N := 11) hx hb hts i_NF hown hK.1 hP 0 rfl rfl 0 (by decide) (hts _ k_460) (fun _ h9 => h9) rfl d_NF_putBytes_20 ?_
  refine lv_aload_n hx hb d_NF_putBytes_23 rfl (lv_at hl 1 rfl) ?_
  refine va_get (D := D) (ci := 11) (v := .int 3) (C := R_NF) (T := F_NF) (N := 11) hx hb hts i_NF hown hK.1 hP 0 rfl rfl 1 (by decide) (hts _ k_461) (fun _ h9 => h9) rfl d_NF_putBytes_24 ?_
  refine lv_iload_n hx hb d_NF_putBytes_27 rfl (lv_at hl 2 rfl) ?_
  refine lv_iload_n hx hb d_NF_putBytes_28 rfl (lv_at hl 0 rfl) ?_
  refine lv_ishr hx hb d_NF_putBytes_29 ?_
  refine lv_topi (fun x_27 e_28 => ?_)
  refine lv_i2b (v := x_27.toInt8.toInt32) hx hb d_NF_putBytes_30 rfl ?_
  refine lv_topi (fun x_30 e_31 => ?_)
  refine nz_bastE hx hb hK.1 hP hD hS 1 0 rfl rfl (nz_vin (by decide +kernel)) d_NF_putBytes_31 (fun H locs f_32 f_32_e hP hD hS => ?_)
  have hP : va_P D nz_cl [(o0, .inr (11, [.ref o1, .int 3, .ref o2, .ref o3, .ref o4, .ref o5, .ref o6, .ref o7, .ref o8, .ref o9, .ref o10])), (o1, .inl (cB, 1600, .inl f_32))] H := hP
  have hD : va_D A [(o0, .inr (11, [.ref o1, .int 3, .ref o2, .ref o3, .ref o4, .ref o5, .ref o6, .ref o7, .ref o8, .ref o9, .ref o10])), (o1, .inl (cB, 1600, .inl f_32))] := hD
  refine lv_aload_n hx hb d_NF_putBytes_32 rfl (lv_at hl 1 rfl) ?_
  refine lv_dup hx hb d_NF_putBytes_33 rfl ?_
  refine va_get (D := D) (ci := 11) (v := .int 3) (C := R_NF) (T := F_NF) (N := 11) hx hb hts i_NF hown hK.1 hP 0 rfl rfl 1 (by decide) (hts _ k_461) (fun _ h9 => h9) rfl d_NF_putBytes_34 ?_
  refine lv_iconst (v := 1) hx hb d_NF_putBytes_37 (by decide +kernel) ?_
  refine lv_iadd hx hb d_NF_putBytes_38 ?_
  refine nz_ctopi (v := 4) (by decide +kernel) ?_
  refine va_put (D := D) (ci := 11) (v := .int 4) (ty := .int) (C := R_NF) (T := F_NF) (N := 11) hx hb hts i_NF t_NF t_NF_ok n_NF hown hK.1 hP hD hS 0 rfl rfl 1 (by decide) (hts _ k_461) (fun _ h9 => h9) rfl (by decide +kernel) rfl rfl (Nat.le_of_ble_eq_true rfl) d_NF_putBytes_39 (fun H locs hP hD hS => ?_)
  have hP : va_P D nz_cl [(o0, .inr (11, [.ref o1, .int 4, .ref o2, .ref o3, .ref o4, .ref o5, .ref o6, .ref o7, .ref o8, .ref o9, .ref o10])), (o1, .inl (cB, 1600, .inl f_32))] H := hP
  have hD : va_D A [(o0, .inr (11, [.ref o1, .int 4, .ref o2, .ref o3, .ref o4, .ref o5, .ref o6, .ref o7, .ref o8, .ref o9, .ref o10])), (o1, .inl (cB, 1600, .inl f_32))] := hD
  refine lv_iinc (v := (-8)) (lv' := [(2, .int (-8)), (0, .ref o0), (1, .int p0)]) hx hb d_NF_putBytes_42 hl (k := 0) rfl (by decide +kernel) (by decide) rfl (fun ls hl => ?_)
  refine lv_goto (tgt := 3) hx hb d_NF_putBytes_45 (by decide) ?_
  refine lv_iload_n hx hb d_NF_putBytes_3 rfl (lv_at hl 0 rfl) ?_
  refine lv_if_lt (tgt := 48) hx hb d_NF_putBytes_4 (by decide) (fun c_33 => ?_) (fun c_33 => absurd (by decide +kernel) c_33)
  exact nz_retv C0 (hP.sub (ws' := [(o0, .inr (11, [.ref o1, .int 4, .ref o2, .ref o3, .ref o4, .ref o5, .ref o6, .ref o7, .ref o8, .ref o9, .ref o10])), (o1, .inl (cB, 1600, .inl f_32))]) [0, 1] rfl) (hD.sub (ws' := [(o0, .inr (11, [.ref o1, .int 4, .ref o2, .ref o3, .ref o4, .ref o5, .ref o6, .ref o7, .ref o8, .ref o9, .ref o10])), (o1, .inl (cB, 1600, .inl f_32))]) [0, 1] (by decide) rfl) hS ⟨(f_32), rfl⟩ d_NF_putBytes_48
set_option maxHeartbeats 4000000 in
set_option maxRecDepth 100000 in
theorem c_NF_putBytes_4 (l : Launch) (D : va_G) (cB cI cJ : ClassId) (o0 : Nat) (p0 : Int32) (o1 : Nat) (o2 : Nat) (o3 : Nat) (o4 : Nat) (o5 : Nat) (o6 : Nat) (o7 : Nat) (o8 : Nat) (o9 : Nat) (o10 : Nat) (ft : Nat → Int32) : nz_Cv l D cB cI cJ nz_x0 y_NF_putBytes b_NF_putBytes 3 none { frames := 0, cells := 0, slots := 0, locals := 0 } [.ref o0, .int p0] [(o0, .inr (11, [.ref o1, .int 4, .ref o2, .ref o3, .ref o4, .ref o5, .ref o6, .ref o7, .ref o8, .ref o9, .ref o10])), (o1, .inl (cB, 1600, .inl ft))] (fun w => ∃ (zf : Nat → Int32), w = [(o0, .inr (11, [.ref o1, .int 8, .ref o2, .ref o3, .ref o4, .ref o5, .ref o6, .ref o7, .ref o8, .ref o9, .ref o10])), (o1, .inl (cB, 1600, .inl zf))]) := by
  refine nz_Cv.mk (by decide) (Nat.le_of_ble_eq_true rfl) ?_
  intro p e s m below meth c A ls C0 hnm hP hD hS hA hX hl
  have C0 : nz_Cx p s m _ meth c b_NF_putBytes 3 none R_NF D cB cI cJ := C0
  obtain ⟨hx, hb, hr, hml, hown, hts, hlk, hK⟩ := id C0
  have hl : lv_has ls 3 [(0, .ref o0), (1, .int p0)] := hl
  refine lv_bipush (v := 24) hx hb d_NF_putBytes_0 (by decide +kernel) ?_
  refine lv_istore_n (lv' := [(2, .int 24), (0, .ref o0), (1, .int p0)]) hx hb d_NF_putBytes_2 rfl hl (by decide) rfl (fun ls hl => ?_)
  refine lv_iload_n hx hb d_NF_putBytes_3 rfl (lv_at hl 0 rfl) ?_
  refine lv_if_lt (tgt := 48) hx hb d_NF_putBytes_4 (by decide) (fun c_1 => absurd c_1 (by decide +kernel)) (fun c_1 => ?_)
  refine lv_aload_n hx hb d_NF_putBytes_7 rfl (lv_at hl 1 rfl) ?_
  refine va_get (D := D) (ci := 11) (v := .int 4) (C := R_NF) (T := F_NF) (N := 11) hx hb hts i_NF hown hK.1 hP 0 rfl rfl 1 (by decide) (hts _ k_461) (fun _ h9 => h9) rfl d_NF_putBytes_8 ?_
  refine lv_aload_n hx hb d_NF_putBytes_11 rfl (lv_at hl 1 rfl) ?_
  refine va_get (D := D) (ci := 11) (v := .ref o1) (C := R_NF) (T := F_NF) (N := 11) hx hb hts i_NF hown hK.1 hP 0 rfl rfl 0 (by decide) (hts _ k_460) (fun _ h9 => h9) rfl d_NF_putBytes_12 ?_
  refine va_alen (v := 1600) hx hb hK.1 hP 1 0 rfl rfl rfl d_NF_putBytes_15 ?_
  refine lv_icmp_ge (tgt := 42) hx hb d_NF_putBytes_16 (by decide) (fun c_2 => absurd c_2 (by decide +kernel)) (fun c_2 => ?_)
  refine lv_aload_n hx hb d_NF_putBytes_19 rfl (lv_at hl 1 rfl) ?_
  refine va_get (D := D) (ci := 11) (v := .ref o1) (C := R_NF) (T := F_NF) (N := 11) hx hb hts i_NF hown hK.1 hP 0 rfl rfl 0 (by decide) (hts _ k_460) (fun _ h9 => h9) rfl d_NF_putBytes_20 ?_
  refine lv_aload_n hx hb d_NF_putBytes_23 rfl (lv_at hl 1 rfl) ?_
  refine va_get (D := D) (ci := 11) (v := .int 4) (C := R_NF) (T := F_NF) (N := 11) hx hb hts i_NF hown hK.1 hP 0 rfl rfl 1 (by decide) (hts _ k_461) (fun _ h9 => h9) rfl d_NF_putBytes_24 ?_
  refine lv_iload_n hx hb d_NF_putBytes_27 rfl (lv_at hl 2 rfl) ?_
  refine lv_iload_n hx hb d_NF_putBytes_28 rfl (lv_at hl 0 rfl) ?_
  refine lv_ishr hx hb d_NF_putBytes_29 ?_
  refine lv_topi (fun x_3 e_4 => ?_)
  refine lv_i2b (v := x_3.toInt8.toInt32) hx hb d_NF_putBytes_30 rfl ?_
  refine lv_topi (fun x_6 e_7 => ?_)
  refine nz_bastE hx hb hK.1 hP hD hS 1 0 rfl rfl (nz_vin (by decide +kernel)) d_NF_putBytes_31 (fun H locs f_8 f_8_e hP hD hS => ?_)
  have hP : va_P D nz_cl [(o0, .inr (11, [.ref o1, .int 4, .ref o2, .ref o3, .ref o4, .ref o5, .ref o6, .ref o7, .ref o8, .ref o9, .ref o10])), (o1, .inl (cB, 1600, .inl f_8))] H := hP
  have hD : va_D A [(o0, .inr (11, [.ref o1, .int 4, .ref o2, .ref o3, .ref o4, .ref o5, .ref o6, .ref o7, .ref o8, .ref o9, .ref o10])), (o1, .inl (cB, 1600, .inl f_8))] := hD
  refine lv_aload_n hx hb d_NF_putBytes_32 rfl (lv_at hl 1 rfl) ?_
  refine lv_dup hx hb d_NF_putBytes_33 rfl ?_
  refine va_get (D := D) (ci := 11) (v := .int 4) (C := R_NF) (T := F_NF) (N := 11) hx hb hts i_NF hown hK.1 hP 0 rfl rfl 1 (by decide) (hts _ k_461) (fun _ h9 => h9) rfl d_NF_putBytes_34 ?_
  refine lv_iconst (v := 1) hx hb d_NF_putBytes_37 (by decide +kernel) ?_
  refine lv_iadd hx hb d_NF_putBytes_38 ?_
  refine nz_ctopi (v := 5) (by decide +kernel) ?_
  refine va_put (D := D) (ci := 11) (v := .int 5) (ty := .int) (C := R_NF) (T := F_NF) (N := 11) hx hb hts i_NF t_NF t_NF_ok n_NF hown hK.1 hP hD hS 0 rfl rfl 1 (by decide) (hts _ k_461) (fun _ h9 => h9) rfl (by decide +kernel) rfl rfl (Nat.le_of_ble_eq_true rfl) d_NF_putBytes_39 (fun H locs hP hD hS => ?_)
  have hP : va_P D nz_cl [(o0, .inr (11, [.ref o1, .int 5, .ref o2, .ref o3, .ref o4, .ref o5, .ref o6, .ref o7, .ref o8, .ref o9, .ref o10])), (o1, .inl (cB, 1600, .inl f_8))] H := hP
  have hD : va_D A [(o0, .inr (11, [.ref o1, .int 5, .ref o2, .ref o3, .ref o4, .ref o5, .ref o6, .ref o7, .ref o8, .ref o9, .ref o10])), (o1, .inl (cB, 1600, .inl f_8))] := hD
  refine lv_iinc (v := 16) (lv' := [(2, .int 16), (0, .ref o0), (1, .int p0)]) hx hb d_NF_putBytes_42 hl (k := 0) rfl (by decide +kernel) (by decide) rfl (fun ls hl => ?_)
  refine lv_goto (tgt := 3) hx hb d_NF_putBytes_45 (by decide) ?_
  refine lv_iload_n hx hb d_NF_putBytes_3 rfl (lv_at hl 0 rfl) ?_
  refine lv_if_lt (tgt := 48) hx hb d_NF_putBytes_4 (by decide) (fun c_9 => absurd c_9 (by decide +kernel)) (fun c_9 => ?_)
  refine lv_aload_n hx hb d_NF_putBytes_7 rfl (lv_at hl 1 rfl) ?_
  refine va_get (D := D) (ci := 11) (v := .int 5) (C := R_NF) (T := F_NF) (N := 11) hx hb hts i_NF hown hK.1 hP 0 rfl rfl 1 (by decide) (hts _ k_461) (fun _ h9 => h9) rfl d_NF_putBytes_8 ?_
  refine lv_aload_n hx hb d_NF_putBytes_11 rfl (lv_at hl 1 rfl) ?_
  refine va_get (D := D) (ci := 11) (v := .ref o1) (C := R_NF) (T := F_NF) (N := 11) hx hb hts i_NF hown hK.1 hP 0 rfl rfl 0 (by decide) (hts _ k_460) (fun _ h9 => h9) rfl d_NF_putBytes_12 ?_
  refine va_alen (v := 1600) hx hb hK.1 hP 1 0 rfl rfl rfl d_NF_putBytes_15 ?_
  refine lv_icmp_ge (tgt := 42) hx hb d_NF_putBytes_16 (by decide) (fun c_10 => absurd c_10 (by decide +kernel)) (fun c_10 => ?_)
  refine lv_aload_n hx hb d_NF_putBytes_19 rfl (lv_at hl 1 rfl) ?_
  refine va_get (D := D) (ci := 11) (v := .ref o1) (C := R_NF) (T := F_NF) (N := 11) hx hb hts i_NF hown hK.1 hP 0 rfl rfl 0 (by decide) (hts _ k_460) (fun _ h9 => h9) rfl d_NF_putBytes_20 ?_
  refine lv_aload_n hx hb d_NF_putBytes_23 rfl (lv_at hl 1 rfl) ?_
  refine va_get (D := D) (ci := 11) (v := .int 5) (C := R_NF) (T := F_NF) (N := 11) hx hb hts i_NF hown hK.1 hP 0 rfl rfl 1 (by decide) (hts _ k_461) (fun _ h9 => h9) rfl d_NF_putBytes_24 ?_
  refine lv_iload_n hx hb d_NF_putBytes_27 rfl (lv_at hl 2 rfl) ?_
  refine lv_iload_n hx hb d_NF_putBytes_28 rfl (lv_at hl 0 rfl) ?_
  refine lv_ishr hx hb d_NF_putBytes_29 ?_
  refine lv_topi (fun x_11 e_12 => ?_)
  refine lv_i2b (v := x_11.toInt8.toInt32) hx hb d_NF_putBytes_30 rfl ?_
  refine lv_topi (fun x_14 e_15 => ?_)
  refine nz_bastE hx hb hK.1 hP hD hS 1 0 rfl rfl (nz_vin (by decide +kernel)) d_NF_putBytes_31 (fun H locs f_16 f_16_e hP hD hS => ?_)
  have hP : va_P D nz_cl [(o0, .inr (11, [.ref o1, .int 5, .ref o2, .ref o3, .ref o4, .ref o5, .ref o6, .ref o7, .ref o8, .ref o9, .ref o10])), (o1, .inl (cB, 1600, .inl f_16))] H := hP
  have hD : va_D A [(o0, .inr (11, [.ref o1, .int 5, .ref o2, .ref o3, .ref o4, .ref o5, .ref o6, .ref o7, .ref o8, .ref o9, .ref o10])), (o1, .inl (cB, 1600, .inl f_16))] := hD
  refine lv_aload_n hx hb d_NF_putBytes_32 rfl (lv_at hl 1 rfl) ?_
  refine lv_dup hx hb d_NF_putBytes_33 rfl ?_
  refine va_get (D := D) (ci := 11) (v := .int 5) (C := R_NF) (T := F_NF) (N := 11) hx hb hts i_NF hown hK.1 hP 0 rfl rfl 1 (by decide) (hts _ k_461) (fun _ h9 => h9) rfl d_NF_putBytes_34 ?_
  refine lv_iconst (v := 1) hx hb d_NF_putBytes_37 (by decide +kernel) ?_
  refine lv_iadd hx hb d_NF_putBytes_38 ?_
  refine nz_ctopi (v := 6) (by decide +kernel) ?_
  refine va_put (D := D) (ci := 11) (v := .int 6) (ty := .int) (C := R_NF) (T := F_NF) (N := 11) hx hb hts i_NF t_NF t_NF_ok n_NF hown hK.1 hP hD hS 0 rfl rfl 1 (by decide) (hts _ k_461) (fun _ h9 => h9) rfl (by decide +kernel) rfl rfl (Nat.le_of_ble_eq_true rfl) d_NF_putBytes_39 (fun H locs hP hD hS => ?_)
  have hP : va_P D nz_cl [(o0, .inr (11, [.ref o1, .int 6, .ref o2, .ref o3, .ref o4, .ref o5, .ref o6, .ref o7, .ref o8, .ref o9, .ref o10])), (o1, .inl (cB, 1600, .inl f_16))] H := hP
  have hD : va_D A [(o0, .inr (11, [.ref o1, .int 6, .ref o2, .ref o3, .ref o4, .ref o5, .ref o6, .ref o7, .ref o8, .ref o9, .ref o10])), (o1, .inl (cB, 1600, .inl f_16))] := hD
  refine lv_iinc (v := 8) (lv' := [(2, .int 8), (0, .ref o0), (1, .int p0)]) hx hb d_NF_putBytes_42 hl (k := 0) rfl (by decide +kernel) (by decide) rfl (fun ls hl => ?_)
  refine lv_goto (tgt := 3) hx hb d_NF_putBytes_45 (by decide) ?_
  refine lv_iload_n hx hb d_NF_putBytes_3 rfl (lv_at hl 0 rfl) ?_
  refine lv_if_lt (tgt := 48) hx hb d_NF_putBytes_4 (by decide) (fun c_17 => absurd c_17 (by decide +kernel)) (fun c_17 => ?_)
  refine lv_aload_n hx hb d_NF_putBytes_7 rfl (lv_at hl 1 rfl) ?_
  refine va_get (D := D) (ci := 11) (v := .int 6) (C := R_NF) (T := F_NF) (N := 11) hx hb hts i_NF hown hK.1 hP 0 rfl rfl 1 (by decide) (hts _ k_461) (fun _ h9 => h9) rfl d_NF_putBytes_8 ?_
  refine lv_aload_n hx hb d_NF_putBytes_11 rfl (lv_at hl 1 rfl) ?_
  refine va_get (D := D) (ci := 11) (v := .ref o1) (C := R_NF) (T := F_NF) (N := 11) hx hb hts i_NF hown hK.1 hP 0 rfl rfl 0 (by decide) (hts _ k_460) (fun _ h9 => h9) rfl d_NF_putBytes_12 ?_
  refine va_alen (v := 1600) hx hb hK.1 hP 1 0 rfl rfl rfl d_NF_putBytes_15 ?_
  refine lv_icmp_ge (tgt := 42) hx hb d_NF_putBytes_16 (by decide) (fun c_18 => absurd c_18 (by decide +kernel)) (fun c_18 => ?_)
  refine lv_aload_n hx hb d_NF_putBytes_19 rfl (lv_at hl 1 rfl) ?_
  refine va_get (D := D) (ci := 11) (v := .ref o1) (C := R_NF) (T := F_NF) (N := 11) hx hb hts i_NF hown hK.1 hP 0 rfl rfl 0 (by decide) (hts _ k_460) (fun _ h9 => h9) rfl d_NF_putBytes_20 ?_
  refine lv_aload_n hx hb d_NF_putBytes_23 rfl (lv_at hl 1 rfl) ?_
  refine va_get (D := D) (ci := 11) (v := .int 6) (C := R_NF) (T := F_NF) (N := 11) hx hb hts i_NF hown hK.1 hP 0 rfl rfl 1 (by decide) (hts _ k_461) (fun _ h9 => h9) rfl d_NF_putBytes_24 ?_
  refine lv_iload_n hx hb d_NF_putBytes_27 rfl (lv_at hl 2 rfl) ?_
  refine lv_iload_n hx hb d_NF_putBytes_28 rfl (lv_at hl 0 rfl) ?_
  refine lv_ishr hx hb d_NF_putBytes_29 ?_
  refine lv_topi (fun x_19 e_20 => ?_)
  refine lv_i2b (v := x_19.toInt8.toInt32) hx hb d_NF_putBytes_30 rfl ?_
  refine lv_topi (fun x_22 e_23 => ?_)
  refine nz_bastE hx hb hK.1 hP hD hS 1 0 rfl rfl (nz_vin (by decide +kernel)) d_NF_putBytes_31 (fun H locs f_24 f_24_e hP hD hS => ?_)
  have hP : va_P D nz_cl [(o0, .inr (11, [.ref o1, .int 6, .ref o2, .ref o3, .ref o4, .ref o5, .ref o6, .ref o7, .ref o8, .ref o9, .ref o10])), (o1, .inl (cB, 1600, .inl f_24))] H := hP
  have hD : va_D A [(o0, .inr (11, [.ref o1, .int 6, .ref o2, .ref o3, .ref o4, .ref o5, .ref o6, .ref o7, .ref o8, .ref o9, .ref o10])), (o1, .inl (cB, 1600, .inl f_24))] := hD
  refine lv_aload_n hx hb d_NF_putBytes_32 rfl (lv_at hl 1 rfl) ?_
  refine lv_dup hx hb d_NF_putBytes_33 rfl ?_
  refine va_get (D := D) (ci := 11) (v := .int 6) (C := R_NF) (T := F_NF) (N := 11) hx hb hts i_NF hown hK.1 hP 0 rfl rfl 1 (by decide) (hts _ k_461) (fun _ h9 => h9) rfl d_NF_putBytes_34 ?_
  refine lv_iconst (v := 1) hx hb d_NF_putBytes_37 (by decide +kernel) ?_
  refine lv_iadd hx hb d_NF_putBytes_38 ?_
  refine nz_ctopi (v := 7) (by decide +kernel) ?_
  refine va_put (D := D) (ci := 11) (v := .int 7) (ty := .int) (C := R_NF) (T := F_NF) (N := 11) hx hb hts i_NF t_NF t_NF_ok n_NF hown hK.1 hP hD hS 0 rfl rfl 1 (by decide) (hts _ k_461) (fun _ h9 => h9) rfl (by decide +kernel) rfl rfl (Nat.le_of_ble_eq_true rfl) d_NF_putBytes_39 (fun H locs hP hD hS => ?_)
  have hP : va_P D nz_cl [(o0, .inr (11, [.ref o1, .int 7, .ref o2, .ref o3, .ref o4, .ref o5, .ref o6, .ref o7, .ref o8, .ref o9, .ref o10])), (o1, .inl (cB, 1600, .inl f_24))] H := hP
  have hD : va_D A [(o0, .inr (11, [.ref o1, .int 7, .ref o2, .ref o3, .ref o4, .ref o5, .ref o6, .ref o7, .ref o8, .ref o9, .ref o10])), (o1, .inl (cB, 1600, .inl f_24))] := hD
  refine lv_iinc (v := 0) (lv' := [(2, .int 0), (0, .ref o0), (1, .int p0)]) hx hb d_NF_putBytes_42 hl (k := 0) rfl (by decide +kernel) (by decide) rfl (fun ls hl => ?_)
  refine lv_goto (tgt := 3) hx hb d_NF_putBytes_45 (by decide) ?_
  refine lv_iload_n hx hb d_NF_putBytes_3 rfl (lv_at hl 0 rfl) ?_
  refine lv_if_lt (tgt := 48) hx hb d_NF_putBytes_4 (by decide) (fun c_25 => absurd c_25 (by decide +kernel)) (fun c_25 => ?_)
  refine lv_aload_n hx hb d_NF_putBytes_7 rfl (lv_at hl 1 rfl) ?_
  refine va_get (D := D) (ci := 11) (v := .int 7) (C := R_NF) (T := F_NF) (N := 11) hx hb hts i_NF hown hK.1 hP 0 rfl rfl 1 (by decide) (hts _ k_461) (fun _ h9 => h9) rfl d_NF_putBytes_8 ?_
  refine lv_aload_n hx hb d_NF_putBytes_11 rfl (lv_at hl 1 rfl) ?_
  refine va_get (D := D) (ci := 11) (v := .ref o1) (C := R_NF) (T := F_NF) (N := 11) hx hb hts i_NF hown hK.1 hP 0 rfl rfl 0 (by decide) (hts _ k_460) (fun _ h9 => h9) rfl d_NF_putBytes_12 ?_
  refine va_alen (v := 1600) hx hb hK.1 hP 1 0 rfl rfl rfl d_NF_putBytes_15 ?_
  refine lv_icmp_ge (tgt := 42) hx hb d_NF_putBytes_16 (by decide) (fun c_26 => absurd c_26 (by decide +kernel)) (fun c_26 => ?_)
  refine lv_aload_n hx hb d_NF_putBytes_19 rfl (lv_at hl 1 rfl) ?_
  refine va_get (D := D) (ci := 11) (v := .ref o1) (C := R_NF) (T := F_NF) (N := 11) hx hb hts i_NF hown hK.1 hP 0 rfl rfl 0 (by decide) (hts _ k_460) (fun _ h9 => h9) rfl d_NF_putBytes_20 ?_
  refine lv_aload_n hx hb d_NF_putBytes_23 rfl (lv_at hl 1 rfl) ?_
  refine va_get (D := D) (ci := 11) (v := .int 7) (C := R_NF) (T := F_NF) (N := 11) hx hb hts i_NF hown hK.1 hP 0 rfl rfl 1 (by decide) (hts _ k_461) (fun _ h9 => h9) rfl d_NF_putBytes_24 ?_
  refine lv_iload_n hx hb d_NF_putBytes_27 rfl (lv_at hl 2 rfl) ?_
  refine lv_iload_n hx hb d_NF_putBytes_28 rfl (lv_at hl 0 rfl) ?_
  refine lv_ishr hx hb d_NF_putBytes_29 ?_
  refine lv_topi (fun x_27 e_28 => ?_)
  refine lv_i2b (v := x_27.toInt8.toInt32) hx hb d_NF_putBytes_30 rfl ?_
  refine lv_topi (fun x_30 e_31 => ?_)
  refine nz_bastE hx hb hK.1 hP hD hS 1 0 rfl rfl (nz_vin (by decide +kernel)) d_NF_putBytes_31 (fun H locs f_32 f_32_e hP hD hS => ?_)
  have hP : va_P D nz_cl [(o0, .inr (11, [.ref o1, .int 7, .ref o2, .ref o3, .ref o4, .ref o5, .ref o6, .ref o7, .ref o8, .ref o9, .ref o10])), (o1, .inl (cB, 1600, .inl f_32))] H := hP
  have hD : va_D A [(o0, .inr (11, [.ref o1, .int 7, .ref o2, .ref o3, .ref o4, .ref o5, .ref o6, .ref o7, .ref o8, .ref o9, .ref o10])), (o1, .inl (cB, 1600, .inl f_32))] := hD
  refine lv_aload_n hx hb d_NF_putBytes_32 rfl (lv_at hl 1 rfl) ?_
  refine lv_dup hx hb d_NF_putBytes_33 rfl ?_
  refine va_get (D := D) (ci := 11) (v := .int 7) (C := R_NF) (T := F_NF) (N := 11) hx hb hts i_NF hown hK.1 hP 0 rfl rfl 1 (by decide) (hts _ k_461) (fun _ h9 => h9) rfl d_NF_putBytes_34 ?_
  refine lv_iconst (v := 1) hx hb d_NF_putBytes_37 (by decide +kernel) ?_
  refine lv_iadd hx hb d_NF_putBytes_38 ?_
  refine nz_ctopi (v := 8) (by decide +kernel) ?_
  refine va_put (D := D) (ci := 11) (v := .int 8) (ty := .int) (C := R_NF) (T := F_NF) (N := 11) hx hb hts i_NF t_NF t_NF_ok n_NF hown hK.1 hP hD hS 0 rfl rfl 1 (by decide) (hts _ k_461) (fun _ h9 => h9) rfl (by decide +kernel) rfl rfl (Nat.le_of_ble_eq_true rfl) d_NF_putBytes_39 (fun H locs hP hD hS => ?_)
  have hP : va_P D nz_cl [(o0, .inr (11, [.ref o1, .int 8, .ref o2, .ref o3, .ref o4, .ref o5, .ref o6, .ref o7, .ref o8, .ref o9, .ref o10])), (o1, .inl (cB, 1600, .inl f_32))] H := hP
  have hD : va_D A [(o0, .inr (11, [.ref o1, .int 8, .ref o2, .ref o3, .ref o4, .ref o5, .ref o6, .ref o7, .ref o8, .ref o9, .ref o10])), (o1, .inl (cB, 1600, .inl f_32))] := hD
  refine lv_iinc (v := (-8)) (lv' := [(2, .int (-8)), (0, .ref o0), (1, .int p0)]) hx hb d_NF_putBytes_42 hl (k := 0) rfl (by decide +kernel) (by decide) rfl (fun ls hl => ?_)
  refine lv_goto (tgt := 3) hx hb d_NF_putBytes_45 (by decide) ?_
  refine lv_iload_n hx hb d_NF_putBytes_3 rfl (lv_at hl 0 rfl) ?_
  refine lv_if_lt (tgt := 48) hx hb d_NF_putBytes_4 (by decide) (fun c_33 => ?_) (fun c_33 => absurd (by decide +kernel) c_33)
  exact nz_retv C0 (hP.sub (ws' := [(o0, .inr (11, [.ref o1, .int 8, .ref o2, .ref o3, .ref o4, .ref o5, .ref o6, .ref o7, .ref o8, .ref o9, .ref o10])), (o1, .inl (cB, 1600, .inl f_32))]) [0, 1] rfl) (hD.sub (ws' := [(o0, .inr (11, [.ref o1, .int 8, .ref o2, .ref o3, .ref o4, .ref o5, .ref o6, .ref o7, .ref o8, .ref o9, .ref o10])), (o1, .inl (cB, 1600, .inl f_32))]) [0, 1] (by decide) rfl) hS ⟨(f_32), rfl⟩ d_NF_putBytes_48
set_option maxHeartbeats 4000000 in
set_option maxRecDepth 100000 in
theorem c_NF_putBytes_8 (l : Launch) (D : va_G) (cB cI cJ : ClassId) (o0 : Nat) (p0 : Int32) (o1 : Nat) (o2 : Nat) (o3 : Nat) (o4 : Nat) (o5 : Nat) (o6 : Nat) (o7 : Nat) (o8 : Nat) (o9 : Nat) (o10 : Nat) (ft : Nat → Int32) : nz_Cv l D cB cI cJ nz_x0 y_NF_putBytes b_NF_putBytes 3 none { frames := 0, cells := 0, slots := 0, locals := 0 } [.ref o0, .int p0] [(o0, .inr (11, [.ref o1, .int 8, .ref o2, .ref o3, .ref o4, .ref o5, .ref o6, .ref o7, .ref o8, .ref o9, .ref o10])), (o1, .inl (cB, 1600, .inl ft))] (fun w => ∃ (zf : Nat → Int32), w = [(o0, .inr (11, [.ref o1, .int 12, .ref o2, .ref o3, .ref o4, .ref o5, .ref o6, .ref o7, .ref o8, .ref o9, .ref o10])), (o1, .inl (cB, 1600, .inl zf))]) := by
  refine nz_Cv.mk (by decide) (Nat.le_of_ble_eq_true rfl) ?_
  intro p e s m below meth c A ls C0 hnm hP hD hS hA hX hl
  have C0 : nz_Cx p s m _ meth c b_NF_putBytes 3 none R_NF D cB cI cJ := C0
  obtain ⟨hx, hb, hr, hml, hown, hts, hlk, hK⟩ := id C0
  have hl : lv_has ls 3 [(0, .ref o0), (1, .int p0)] := hl
  refine lv_bipush (v := 24) hx hb d_NF_putBytes_0 (by decide +kernel) ?_
  refine lv_istore_n (lv' := [(2, .int 24), (0, .ref o0), (1, .int p0)]) hx hb d_NF_putBytes_2 rfl hl (by decide) rfl (fun ls hl => ?_)
  refine lv_iload_n hx hb d_NF_putBytes_3 rfl (lv_at hl 0 rfl) ?_
  refine lv_if_lt (tgt := 48) hx hb d_NF_putBytes_4 (by decide) (fun c_1 => absurd c_1 (by decide +kernel)) (fun c_1 => ?_)
  refine lv_aload_n hx hb d_NF_putBytes_7 rfl (lv_at hl 1 rfl) ?_
  refine va_get (D := D) (ci := 11) (v := .int 8) (C := R_NF) (T := F_NF) (N := 11) hx hb hts i_NF hown hK.1 hP 0 rfl rfl 1 (by decide) (hts _ k_461) (fun _ h9 => h9) rfl d_NF_putBytes_8 ?_
  refine lv_aload_n hx hb d_NF_putBytes_11 rfl (lv_at hl 1 rfl) ?_
  refine va_get (D := D) (ci := 11) (v := .ref o1) (C := R_NF) (T := F_NF) (N := 11) hx hb hts i_NF hown hK.1 hP 0 rfl rfl 0 (by decide) (hts _ k_460) (fun _ h9 => h9) rfl d_NF_putBytes_12 ?_
  refine va_alen (v := 1600) hx hb hK.1 hP 1 0 rfl rfl rfl d_NF_putBytes_15 ?_
  refine lv_icmp_ge (tgt := 42) hx hb d_NF_putBytes_16 (by decide) (fun c_2 => absurd c_2 (by decide +kernel)) (fun c_2 => ?_)
  refine lv_aload_n hx hb d_NF_putBytes_19 rfl (lv_at hl 1 rfl) ?_
  refine va_get (D := D) (ci := 11) (v := .ref o1) (C := R_NF) (T := F_NF) (N := 11) hx hb hts i_NF hown hK.1 hP 0 rfl rfl 0 (by decide) (hts _ k_460) (fun _ h9 => h9) rfl d_NF_putBytes_20 ?_
  refine lv_aload_n hx hb d_NF_putBytes_23 rfl (lv_at hl 1 rfl) ?_
  refine va_get (D := D) (ci := 11) (v := .int 8) (C := R_NF) (T := F_NF) (N := 11) hx hb hts i_NF hown hK.1 hP 0 rfl rfl 1 (by decide) (hts _ k_461) (fun _ h9 => h9) rfl d_NF_putBytes_24 ?_
  refine lv_iload_n hx hb d_NF_putBytes_27 rfl (lv_at hl 2 rfl) ?_
  refine lv_iload_n hx hb d_NF_putBytes_28 rfl (lv_at hl 0 rfl) ?_
  refine lv_ishr hx hb d_NF_putBytes_29 ?_
  refine lv_topi (fun x_3 e_4 => ?_)
  refine lv_i2b (v := x_3.toInt8.toInt32) hx hb d_NF_putBytes_30 rfl ?_
  refine lv_topi (fun x_6 e_7 => ?_)
  refine nz_bastE hx hb hK.1 hP hD hS 1 0 rfl rfl (nz_vin (by decide +kernel)) d_NF_putBytes_31 (fun H locs f_8 f_8_e hP hD hS => ?_)
  have hP : va_P D nz_cl [(o0, .inr (11, [.ref o1, .int 8, .ref o2, .ref o3, .ref o4, .ref o5, .ref o6, .ref o7, .ref o8, .ref o9, .ref o10])), (o1, .inl (cB, 1600, .inl f_8))] H := hP
  have hD : va_D A [(o0, .inr (11, [.ref o1, .int 8, .ref o2, .ref o3, .ref o4, .ref o5, .ref o6, .ref o7, .ref o8, .ref o9, .ref o10])), (o1, .inl (cB, 1600, .inl f_8))] := hD
  refine lv_aload_n hx hb d_NF_putBytes_32 rfl (lv_at hl 1 rfl) ?_
  refine lv_dup hx hb d_NF_putBytes_33 rfl ?_
  refine va_get (D := D) (ci := 11) (v := .int 8) (C := R_NF) (T := F_NF) (N := 11) hx hb hts i_NF hown hK.1 hP 0 rfl rfl 1 (by decide) (hts _ k_461) (fun _ h9 => h9) rfl d_NF_putBytes_34 ?_
  refine lv_iconst (v := 1) hx hb d_NF_putBytes_37 (by decide +kernel) ?_
  refine lv_iadd hx hb d_NF_putBytes_38 ?_
  refine nz_ctopi (v := 9) (by decide +kernel) ?_
  refine va_put (D := D) (ci := 11) (v := .int 9) (ty := .int) (C := R_NF) (T := F_NF) (N := 11) hx hb hts i_NF t_NF t_NF_ok n_NF hown hK.1 hP hD hS 0 rfl rfl 1 (by decide) (hts _ k_461) (fun _ h9 => h9) rfl (by decide +kernel) rfl rfl (Nat.le_of_ble_eq_true rfl) d_NF_putBytes_39 (fun H locs hP hD hS => ?_)
  have hP : va_P D nz_cl [(o0, .inr (11, [.ref o1, .int 9, .ref o2, .ref o3, .ref o4, .ref o5, .ref o6, .ref o7, .ref o8, .ref o9, .ref o10])), (o1, .inl (cB, 1600, .inl f_8))] H := hP
  have hD : va_D A [(o0, .inr (11, [.ref o1, .int 9, .ref o2, .ref o3, .ref o4, .ref o5, .ref o6, .ref o7, .ref o8, .ref o9, .ref o10])), (o1, .inl (cB, 1600, .inl f_8))] := hD
  refine lv_iinc (v := 16) (lv' := [(2, .int 16), (0, .ref o0), (1, .int p0)]) hx hb d_NF_putBytes_42 hl (k := 0) rfl (by decide +kernel) (by decide) rfl (fun ls hl => ?_)
  refine lv_goto (tgt := 3) hx hb d_NF_putBytes_45 (by decide) ?_
  refine lv_iload_n hx hb d_NF_putBytes_3 rfl (lv_at hl 0 rfl) ?_
  refine lv_if_lt (tgt := 48) hx hb d_NF_putBytes_4 (by decide) (fun c_9 => absurd c_9 (by decide +kernel)) (fun c_9 => ?_)
  refine lv_aload_n hx hb d_NF_putBytes_7 rfl (lv_at hl 1 rfl) ?_
  refine va_get (D := D) (ci := 11) (v := .int 9) (C := R_NF) (T := F_NF) (N := 11) hx hb hts i_NF hown hK.1 hP 0 rfl rfl 1 (by decide) (hts _ k_461) (fun _ h9 => h9) rfl d_NF_putBytes_8 ?_
  refine lv_aload_n hx hb d_NF_putBytes_11 rfl (lv_at hl 1 rfl) ?_
  refine va_get (D := D) (ci := 11) (v := .ref o1) (C := R_NF) (T := F_NF) (N := 11) hx hb hts i_NF hown hK.1 hP 0 rfl rfl 0 (by decide) (hts _ k_460) (fun _ h9 => h9) rfl d_NF_putBytes_12 ?_
  refine va_alen (v := 1600) hx hb hK.1 hP 1 0 rfl rfl rfl d_NF_putBytes_15 ?_
  refine lv_icmp_ge (tgt := 42) hx hb d_NF_putBytes_16 (by decide) (fun c_10 => absurd c_10 (by decide +kernel)) (fun c_10 => ?_)
  refine lv_aload_n hx hb d_NF_putBytes_19 rfl (lv_at hl 1 rfl) ?_
  refine va_get (D := D) (ci := 11) (v := .ref o1) (C := R_NF) (T := F_NF) (N := 11) hx hb hts i_NF hown hK.1 hP 0 rfl rfl 0 (by decide) (hts _ k_460) (fun _ h9 => h9) rfl d_NF_putBytes_20 ?_
  refine lv_aload_n hx hb d_NF_putBytes_23 rfl (lv_at hl 1 rfl) ?_
  refine va_get (D := D) (ci := 11) (v := .int 9) (C := R_NF) (T := F_NF) (N := 11) hx hb hts i_NF hown hK.1 hP 0 rfl rfl 1 (by decide) (hts _ k_461) (fun _ h9 => h9) rfl d_NF_putBytes_24 ?_
  refine lv_iload_n hx hb d_NF_putBytes_27 rfl (lv_at hl 2 rfl) ?_
  refine lv_iload_n hx hb d_NF_putBytes_28 rfl (lv_at hl 0 rfl) ?_
  refine lv_ishr hx hb d_NF_putBytes_29 ?_
  refine lv_topi (fun x_11 e_12 => ?_)
  refine lv_i2b (v := x_11.toInt8.toInt32) hx hb d_NF_putBytes_30 rfl ?_
  refine lv_topi (fun x_14 e_15 => ?_)
  refine nz_bastE hx hb hK.1 hP hD hS 1 0 rfl rfl (nz_vin (by decide +kernel)) d_NF_putBytes_31 (fun H locs f_16 f_16_e hP hD hS => ?_)
  have hP : va_P D nz_cl [(o0, .inr (11, [.ref o1, .int 9, .ref o2, .ref o3, .ref o4, .ref o5, .ref o6, .ref o7, .ref o8, .ref o9, .ref o10])), (o1, .inl (cB, 1600, .inl f_16))] H := hP
  have hD : va_D A [(o0, .inr (11, [.ref o1, .int 9, .ref o2, .ref o3, .ref o4, .ref o5, .ref o6, .ref o7, .ref o8, .ref o9, .ref o10])), (o1, .inl (cB, 1600, .inl f_16))] := hD
  refine lv_aload_n hx hb d_NF_putBytes_32 rfl (lv_at hl 1 rfl) ?_
  refine lv_dup hx hb d_NF_putBytes_33 rfl ?_
  refine va_get (D := D) (ci := 11) (v := .int 9) (C := R_NF) (T := F_NF) (N := 11) hx hb hts i_NF hown hK.1 hP 0 rfl rfl 1 (by decide) (hts _ k_461) (fun _ h9 => h9) rfl d_NF_putBytes_34 ?_
  refine lv_iconst (v := 1) hx hb d_NF_putBytes_37 (by decide +kernel) ?_
  refine lv_iadd hx hb d_NF_putBytes_38 ?_
  refine nz_ctopi (v := 10) (by decide +kernel) ?_
  refine va_put (D := D) (ci := 11) (v := .int 10) (ty := .int) (C := R_NF) (T := F_NF) (N := 11) hx hb hts i_NF t_NF t_NF_ok n_NF hown hK.1 hP hD hS 0 rfl rfl 1 (by decide) (hts _ k_461) (fun _ h9 => h9) rfl (by decide +kernel) rfl rfl (Nat.le_of_ble_eq_true rfl) d_NF_putBytes_39 (fun H locs hP hD hS => ?_)
  have hP : va_P D nz_cl [(o0, .inr (11, [.ref o1, .int 10, .ref o2, .ref o3, .ref o4, .ref o5, .ref o6, .ref o7, .ref o8, .ref o9, .ref o10])), (o1, .inl (cB, 1600, .inl f_16))] H := hP
  have hD : va_D A [(o0, .inr (11, [.ref o1, .int 10, .ref o2, .ref o3, .ref o4, .ref o5, .ref o6, .ref o7, .ref o8, .ref o9, .ref o10])), (o1, .inl (cB, 1600, .inl f_16))] := hD
  refine lv_iinc (v := 8) (lv' := [(2, .int 8), (0, .ref o0), (1, .int p0)]) hx hb d_NF_putBytes_42 hl (k := 0) rfl (by decide +kernel) (by decide) rfl (fun ls hl => ?_)
  refine lv_goto (tgt := 3) hx hb d_NF_putBytes_45 (by decide) ?_
  refine lv_iload_n hx hb d_NF_putBytes_3 rfl (lv_at hl 0 rfl) ?_
  refine lv_if_lt (tgt := 48) hx hb d_NF_putBytes_4 (by decide) (fun c_17 => absurd c_17 (by decide +kernel)) (fun c_17 => ?_)
  refine lv_aload_n hx hb d_NF_putBytes_7 rfl (lv_at hl 1 rfl) ?_
  refine va_get (D := D) (ci := 11) (v := .int 10) (C := R_NF) (T := F_NF) (N := 11) hx hb hts i_NF hown hK.1 hP 0 rfl rfl 1 (by decide) (hts _ k_461) (fun _ h9 => h9) rfl d_NF_putBytes_8 ?_
  refine lv_aload_n hx hb d_NF_putBytes_11 rfl (lv_at hl 1 rfl) ?_
  refine va_get (D := D) (ci := 11) (v := .ref o1) (C := R_NF) (T := F_NF) (N := 11) hx hb hts i_NF hown hK.1 hP 0 rfl rfl 0 (by decide) (hts _ k_460) (fun _ h9 => h9) rfl d_NF_putBytes_12 ?_
  refine va_alen (v := 1600) hx hb hK.1 hP 1 0 rfl rfl rfl d_NF_putBytes_15 ?_
  refine lv_icmp_ge (tgt := 42) hx hb d_NF_putBytes_16 (by decide) (fun c_18 => absurd c_18 (by decide +kernel)) (fun c_18 => ?_)
  refine lv_aload_n hx hb d_NF_putBytes_19 rfl (lv_at hl 1 rfl) ?_
  refine va_get (D := D) (ci := 11) (v := .ref o1) (C := R_NF) (T := F_NF) (N := 11) hx hb hts i_NF hown hK.1 hP 0 rfl rfl 0 (by decide) (hts _ k_460) (fun _ h9 => h9) rfl d_NF_putBytes_20 ?_
  refine lv_aload_n hx hb d_NF_putBytes_23 rfl (lv_at hl 1 rfl) ?_
  refine va_get (D := D) (ci := 11) (v := .int 10) (C := R_NF) (T := F_NF) (N := 11) hx hb hts i_NF hown hK.1 hP 0 rfl rfl 1 (by decide) (hts _ k_461) (fun _ h9 => h9) rfl d_NF_putBytes_24 ?_
  refine lv_iload_n hx hb d_NF_putBytes_27 rfl (lv_at hl 2 rfl) ?_
  refine lv_iload_n hx hb d_NF_putBytes_28 rfl (lv_at hl 0 rfl) ?_
  refine lv_ishr hx hb d_NF_putBytes_29 ?_
  refine lv_topi (fun x_19 e_20 => ?_)
  refine lv_i2b (v := x_19.toInt8.toInt32) hx hb d_NF_putBytes_30 rfl ?_
  refine lv_topi (fun x_22 e_23 => ?_)
  refine nz_bastE hx hb hK.1 hP hD hS 1 0 rfl rfl (nz_vin (by decide +kernel)) d_NF_putBytes_31 (fun H locs f_24 f_24_e hP hD hS => ?_)
  have hP : va_P D nz_cl [(o0, .inr (11, [.ref o1, .int 10, .ref o2, .ref o3, .ref o4, .ref o5, .ref o6, .ref o7, .ref o8, .ref o9, .ref o10])), (o1, .inl (cB, 1600, .inl f_24))] H := hP
  have hD : va_D A [(o0, .inr (11, [.ref o1, .int 10, .ref o2, .ref o3, .ref o4, .ref o5, .ref o6, .ref o7, .ref o8, .ref o9, .ref o10])), (o1, .inl (cB, 1600, .inl f_24))] := hD
  refine lv_aload_n hx hb d_NF_putBytes_32 rfl (lv_at hl 1 rfl) ?_
  refine lv_dup hx hb d_NF_putBytes_33 rfl ?_
  refine va_get (D := D) (ci := 11) (v := .int 10) (C := R_NF) (T := F_NF) (N := 11) hx hb hts i_NF hown hK.1 hP 0 rfl rfl 1 (by decide) (hts _ k_461) (fun _ h9 => h9) rfl d_NF_putBytes_34 ?_
  refine lv_iconst (v := 1) hx hb d_NF_putBytes_37 (by decide +kernel) ?_
  refine lv_iadd hx hb d_NF_putBytes_38 ?_
  refine nz_ctopi (v := 11) (by decide +kernel) ?_
  refine va_put (D := D) (ci := 11) (v := .int 11) (ty := .int) (C := R_NF) (T := F_NF) (N := 11) hx hb hts i_NF t_NF t_NF_ok n_NF hown hK.1 hP hD hS 0 rfl rfl 1 (by decide) (hts _ k_461) (fun _ h9 => h9) rfl (by decide +kernel) rfl rfl (Nat.le_of_ble_eq_true rfl) d_NF_putBytes_39 (fun H locs hP hD hS => ?_)
  have hP : va_P D nz_cl [(o0, .inr (11, [.ref o1, .int 11, .ref o2, .ref o3, .ref o4, .ref o5, .ref o6, .ref o7, .ref o8, .ref o9, .ref o10])), (o1, .inl (cB, 1600, .inl f_24))] H := hP
  have hD : va_D A [(o0, .inr (11, [.ref o1, .int 11, .ref o2, .ref o3, .ref o4, .ref o5, .ref o6, .ref o7, .ref o8, .ref o9, .ref o10])), (o1, .inl (cB, 1600, .inl f_24))] := hD
  refine lv_iinc (v := 0) (lv' := [(2, .int 0), (0, .ref o0), (1, .int p0)]) hx hb d_NF_putBytes_42 hl (k := 0) rfl (by decide +kernel) (by decide) rfl (fun ls hl => ?_)
  refine lv_goto (tgt := 3) hx hb d_NF_putBytes_45 (by decide) ?_
  refine lv_iload_n hx hb d_NF_putBytes_3 rfl (lv_at hl 0 rfl) ?_
  refine lv_if_lt (tgt := 48) hx hb d_NF_putBytes_4 (by decide) (fun c_25 => absurd c_25 (by decide +kernel)) (fun c_25 => ?_)
  refine lv_aload_n hx hb d_NF_putBytes_7 rfl (lv_at hl 1 rfl) ?_
  refine va_get (D := D) (ci := 11) (v := .int 11) (C := R_NF) (T := F_NF) (N := 11) hx hb hts i_NF hown hK.1 hP 0 rfl rfl 1 (by decide) (hts _ k_461) (fun _ h9 => h9) rfl d_NF_putBytes_8 ?_
  refine lv_aload_n hx hb d_NF_putBytes_11 rfl (lv_at hl 1 rfl) ?_
  refine va_get (D := D) (ci := 11) (v := .ref o1) (C := R_NF) (T := F_NF) (N := 11) hx hb hts i_NF hown hK.1 hP 0 rfl rfl 0 (by decide) (hts _ k_460) (fun _ h9 => h9) rfl d_NF_putBytes_12 ?_
  refine va_alen (v := 1600) hx hb hK.1 hP 1 0 rfl rfl rfl d_NF_putBytes_15 ?_
  refine lv_icmp_ge (tgt := 42) hx hb d_NF_putBytes_16 (by decide) (fun c_26 => absurd c_26 (by decide +kernel)) (fun c_26 => ?_)
  refine lv_aload_n hx hb d_NF_putBytes_19 rfl (lv_at hl 1 rfl) ?_
  refine va_get (D := D) (ci := 11) (v := .ref o1) (C := R_NF) (T := F_NF) (N := 11) hx hb hts i_NF hown hK.1 hP 0 rfl rfl 0 (by decide) (hts _ k_460) (fun _ h9 => h9) rfl d_NF_putBytes_20 ?_
  refine lv_aload_n hx hb d_NF_putBytes_23 rfl (lv_at hl 1 rfl) ?_
  refine va_get (D := D) (ci := 11) (v := .int 11) (C := R_NF) (T := F_NF) (N := 11) hx hb hts i_NF hown hK.1 hP 0 rfl rfl 1 (by decide) (hts _ k_461) (fun _ h9 => h9) rfl d_NF_putBytes_24 ?_
  refine lv_iload_n hx hb d_NF_putBytes_27 rfl (lv_at hl 2 rfl) ?_
  refine lv_iload_n hx hb d_NF_putBytes_28 rfl (lv_at hl 0 rfl) ?_
  refine lv_ishr hx hb d_NF_putBytes_29 ?_
  refine lv_topi (fun x_27 e_28 => ?_)
  refine lv_i2b (v := x_27.toInt8.toInt32) hx hb d_NF_putBytes_30 rfl ?_
  refine lv_topi (fun x_30 e_31 => ?_)
  refine nz_bastE hx hb hK.1 hP hD hS 1 0 rfl rfl (nz_vin (by decide +kernel)) d_NF_putBytes_31 (fun H locs f_32 f_32_e hP hD hS => ?_)
  have hP : va_P D nz_cl [(o0, .inr (11, [.ref o1, .int 11, .ref o2, .ref o3, .ref o4, .ref o5, .ref o6, .ref o7, .ref o8, .ref o9, .ref o10])), (o1, .inl (cB, 1600, .inl f_32))] H := hP
  have hD : va_D A [(o0, .inr (11, [.ref o1, .int 11, .ref o2, .ref o3, .ref o4, .ref o5, .ref o6, .ref o7, .ref o8, .ref o9, .ref o10])), (o1, .inl (cB, 1600, .inl f_32))] := hD
  refine lv_aload_n hx hb d_NF_putBytes_32 rfl (lv_at hl 1 rfl) ?_
  refine lv_dup hx hb d_NF_putBytes_33 rfl ?_
  refine va_get (D := D) (ci := 11) (v := .int 11) (C := R_NF) (T := F_NF) (N := 11) hx hb hts i_NF hown hK.1 hP 0 rfl rfl 1 (by decide) (hts _ k_461) (fun _ h9 => h9) rfl d_NF_putBytes_34 ?_
  refine lv_iconst (v := 1) hx hb d_NF_putBytes_37 (by decide +kernel) ?_
  refine lv_iadd hx hb d_NF_putBytes_38 ?_
  refine nz_ctopi (v := 12) (by decide +kernel) ?_
  refine va_put (D := D) (ci := 11) (v := .int 12) (ty := .int) (C := R_NF) (T := F_NF) (N := 11) hx hb hts i_NF t_NF t_NF_ok n_NF hown hK.1 hP hD hS 0 rfl rfl 1 (by decide) (hts _ k_461) (fun _ h9 => h9) rfl (by decide +kernel) rfl rfl (Nat.le_of_ble_eq_true rfl) d_NF_putBytes_39 (fun H locs hP hD hS => ?_)
  have hP : va_P D nz_cl [(o0, .inr (11, [.ref o1, .int 12, .ref o2, .ref o3, .ref o4, .ref o5, .ref o6, .ref o7, .ref o8, .ref o9, .ref o10])), (o1, .inl (cB, 1600, .inl f_32))] H := hP
  have hD : va_D A [(o0, .inr (11, [.ref o1, .int 12, .ref o2, .ref o3, .ref o4, .ref o5, .ref o6, .ref o7, .ref o8, .ref o9, .ref o10])), (o1, .inl (cB, 1600, .inl f_32))] := hD
  refine lv_iinc (v := (-8)) (lv' := [(2, .int (-8)), (0, .ref o0), (1, .int p0)]) hx hb d_NF_putBytes_42 hl (k := 0) rfl (by decide +kernel) (by decide) rfl (fun ls hl => ?_)
  refine lv_goto (tgt := 3) hx hb d_NF_putBytes_45 (by decide) ?_
  refine lv_iload_n hx hb d_NF_putBytes_3 rfl (lv_at hl 0 rfl) ?_
  refine lv_if_lt (tgt := 48) hx hb d_NF_putBytes_4 (by decide) (fun c_33 => ?_) (fun c_33 => absurd (by decide +kernel) c_33)
  exact nz_retv C0 (hP.sub (ws' := [(o0, .inr (11, [.ref o1, .int 12, .ref o2, .ref o3, .ref o4, .ref o5, .ref o6, .ref o7, .ref o8, .ref o9, .ref o10])), (o1, .inl (cB, 1600, .inl f_32))]) [0, 1] rfl) (hD.sub (ws' := [(o0, .inr (11, [.ref o1, .int 12, .ref o2, .ref o3, .ref o4, .ref o5, .ref o6, .ref o7, .ref o8, .ref o9, .ref o10])), (o1, .inl (cB, 1600, .inl f_32))]) [0, 1] (by decide) rfl) hS ⟨(f_32), rfl⟩ d_NF_putBytes_48
set_option maxHeartbeats 4000000 in
set_option maxRecDepth 100000 in
theorem c_NF_putBytes_12 (l : Launch) (D : va_G) (cB cI cJ : ClassId) (o0 : Nat) (p0 : Int32) (o1 : Nat) (o2 : Nat) (o3 : Nat) (o4 : Nat) (o5 : Nat) (o6 : Nat) (o7 : Nat) (o8 : Nat) (o9 : Nat) (o10 : Nat) (ft : Nat → Int32) : nz_Cv l D cB cI cJ nz_x0 y_NF_putBytes b_NF_putBytes 3 none { frames := 0, cells := 0, slots := 0, locals := 0 } [.ref o0, .int p0] [(o0, .inr (11, [.ref o1, .int 12, .ref o2, .ref o3, .ref o4, .ref o5, .ref o6, .ref o7, .ref o8, .ref o9, .ref o10])), (o1, .inl (cB, 1600, .inl ft))] (fun w => ∃ (zf : Nat → Int32), w = [(o0, .inr (11, [.ref o1, .int 16, .ref o2, .ref o3, .ref o4, .ref o5, .ref o6, .ref o7, .ref o8, .ref o9, .ref o10])), (o1, .inl (cB, 1600, .inl zf))]) := by
  refine nz_Cv.mk (by decide) (Nat.le_of_ble_eq_true rfl) ?_
  intro p e s m below meth c A ls C0 hnm hP hD hS hA hX hl
  have C0 : nz_Cx p s m _ meth c b_NF_putBytes 3 none R_NF D cB cI cJ := C0
  obtain ⟨hx, hb, hr, hml, hown, hts, hlk, hK⟩ := id C0
  have hl : lv_has ls 3 [(0, .ref o0), (1, .int p0)] := hl
  refine lv_bipush (v := 24) hx hb d_NF_putBytes_0 (by decide +kernel) ?_
  refine lv_istore_n (lv' := [(2, .int 24), (0, .ref o0), (1, .int p0)]) hx hb d_NF_putBytes_2 rfl hl (by decide) rfl (fun ls hl => ?_)
  refine lv_iload_n hx hb d_NF_putBytes_3 rfl (lv_at hl 0 rfl) ?_
  refine lv_if_lt (tgt := 48) hx hb d_NF_putBytes_4 (by decide) (fun c_1 => absurd c_1 (by decide +kernel)) (fun c_1 => ?_)
  refine lv_aload_n hx hb d_NF_putBytes_7 rfl (lv_at hl 1 rfl) ?_
  refine va_get (D := D) (ci := 11) (v := .int 12) (C := R_NF) (T := F_NF) (N := 11) hx hb hts i_NF hown hK.1 hP 0 rfl rfl 1 (by decide) (hts _ k_461) (fun _ h9 => h9) rfl d_NF_putBytes_8 ?_
  refine lv_aload_n hx hb d_NF_putBytes_11 rfl (lv_at hl 1 rfl) ?_
  refine va_get (D := D) (ci := 11) (v := .ref o1) (C := R_NF) (T := F_NF) (N := 11) hx hb hts i_NF hown hK.1 hP 0 rfl rfl 0 (by decide) (hts _ k_460) (fun _ h9 => h9) rfl d_NF_putBytes_12 ?_
  refine va_alen (v := 1600) hx hb hK.1 hP 1 0 rfl rfl rfl d_NF_putBytes_15 ?_
  refine lv_icmp_ge (tgt := 42) hx hb d_NF_putBytes_16 (by decide) (fun c_2 => absurd c_2 (by decide +kernel)) (fun c_2 => ?_)
  refine lv_aload_n hx hb d_NF_putBytes_19 rfl (lv_at hl 1 rfl) ?_
  refine va_get (D := D) (ci := 11) (v := .ref o1) (C := R_NF) (T := F_NF) (N := 11) hx hb hts i_NF hown hK.1 hP 0 rfl rfl 0 (by decide) (hts _ k_460) (fun _ h9 => h9) rfl d_NF_putBytes_20 ?_
  refine lv_aload_n hx hb d_NF_putBytes_23 rfl (lv_at hl 1 rfl) ?_
  refine va_get (D := D) (ci := 11) (v := .int 12) (C := R_NF) (T := F_NF) (N := 11) hx hb hts i_NF hown hK.1 hP 0 rfl rfl 1 (by decide) (hts _ k_461) (fun _ h9 => h9) rfl d_NF_putBytes_24 ?_
  refine lv_iload_n hx hb d_NF_putBytes_27 rfl (lv_at hl 2 rfl) ?_
  refine lv_iload_n hx hb d_NF_putBytes_28 rfl (lv_at hl 0 rfl) ?_
  refine lv_ishr hx hb d_NF_putBytes_29 ?_
  refine lv_topi (fun x_3 e_4 => ?_)
  refine lv_i2b (v := x_3.toInt8.toInt32) hx hb d_NF_putBytes_30 rfl ?_
  refine lv_topi (fun x_6 e_7 => ?_)
  refine nz_bastE hx hb hK.1 hP hD hS 1 0 rfl rfl (nz_vin (by decide +kernel)) d_NF_putBytes_31 (fun H locs f_8 f_8_e hP hD hS => ?_)
  have hP : va_P D nz_cl [(o0, .inr (11, [.ref o1, .int 12, .ref o2, .ref o3, .ref o4, .ref o5, .ref o6, .ref o7, .ref o8, .ref o9, .ref o10])), (o1, .inl (cB, 1600, .inl f_8))] H := hP
  have hD : va_D A [(o0, .inr (11, [.ref o1, .int 12, .ref o2, .ref o3, .ref o4, .ref o5, .ref o6, .ref o7, .ref o8, .ref o9, .ref o10])), (o1, .inl (cB, 1600, .inl f_8))] := hD
  refine lv_aload_n hx hb d_NF_putBytes_32 rfl (lv_at hl 1 rfl) ?_
  refine lv_dup hx hb d_NF_putBytes_33 rfl ?_
  refine va_get (D := D) (ci := 11) (v := .int 12) (C := R_NF) (T := F_NF) (N := 11) hx hb hts i_NF hown hK.1 hP 0 rfl rfl 1 (by decide) (hts _ k_461) (fun _ h9 => h9) rfl d_NF_putBytes_34 ?_
  refine lv_iconst (v := 1) hx hb d_NF_putBytes_37 (by decide +kernel) ?_
  refine lv_iadd hx hb d_NF_putBytes_38 ?_
  refine nz_ctopi (v := 13) (by decide +kernel) ?_
  refine va_put (D := D) (ci := 11) (v := .int 13) (ty := .int) (C := R_NF) (T := F_NF) (N := 11) hx hb hts i_NF t_NF t_NF_ok n_NF hown hK.1 hP hD hS 0 rfl rfl 1 (by decide) (hts _ k_461) (fun _ h9 => h9) rfl (by decide +kernel) rfl rfl (Nat.le_of_ble_eq_true rfl) d_NF_putBytes_39 (fun H locs hP hD hS => ?_)
  have hP : va_P D nz_cl [(o0, .inr (11, [.ref o1, .int 13, .ref o2, .ref o3, .ref o4, .ref o5, .ref o6, .ref o7, .ref o8, .ref o9, .ref o10])), (o1, .inl (cB, 1600, .inl f_8))] H := hP
  have hD : va_D A [(o0, .inr (11, [.ref o1, .int 13, .ref o2, .ref o3, .ref o4, .ref o5, .ref o6, .ref o7, .ref o8, .ref o9, .ref o10])), (o1, .inl (cB, 1600, .inl f_8))] := hD
  refine lv_iinc (v := 16) (lv' := [(2, .int 16), (0, .ref o0), (1, .int p0)]) hx hb d_NF_putBytes_42 hl (k := 0) rfl (by decide +kernel) (by decide) rfl (fun ls hl => ?_)
  refine lv_goto (tgt := 3) hx hb d_NF_putBytes_45 (by decide) ?_
  refine lv_iload_n hx hb d_NF_putBytes_3 rfl (lv_at hl 0 rfl) ?_
  refine lv_if_lt (tgt := 48) hx hb d_NF_putBytes_4 (by decide) (fun c_9 => absurd c_9 (by decide +kernel)) (fun c_9 => ?_)
  refine lv_aload_n hx hb d_NF_putBytes_7 rfl (lv_at hl 1 rfl) ?_
  refine va_get (D := D) (ci := 11) (v := .int 13) (C := R_NF) (T := F_NF) (N := 11) hx hb hts i_NF hown hK.1 hP 0 rfl rfl 1 (by decide) (hts _ k_461) (fun _ h9 => h9) rfl d_NF_putBytes_8 ?_
  refine lv_aload_n hx hb d_NF_putBytes_11 rfl (lv_at hl 1 rfl) ?_
  refine va_get (D := D) (ci := 11) (v := .ref o1) (C := R_NF) (T := F_NF) (N := 11) hx hb hts i_NF hown hK.1 hP 0 rfl rfl 0 (by decide) (hts _ k_460) (fun _ h9 => h9) rfl d_NF_putBytes_12 ?_
  refine va_alen (v := 1600) hx hb hK.1 hP 1 0 rfl rfl rfl d_NF_putBytes_15 ?_
  refine lv_icmp_ge (tgt := 42) hx hb d_NF_putBytes_16 (by decide) (fun c_10 => absurd c_10 (by decide +kernel)) (fun c_10 => ?_)
  refine lv_aload_n hx hb d_NF_putBytes_19 rfl (lv_at hl 1 rfl) ?_
  refine va_get (D := D) (ci := 11) (v := .ref o1) (C := R_NF) (T := F_NF) (N := 11) hx hb hts i_NF hown hK.1 hP 0 rfl rfl 0 (by decide) (hts _ k_460) (fun _ h9 => h9) rfl d_NF_putBytes_20 ?_
  refine lv_aload_n hx hb d_NF_putBytes_23 rfl (lv_at hl 1 rfl) ?_
  refine va_get (D := D) (ci := 11) (v := .int 13) (C := R_NF) (T := F_NF) (N := 11) hx hb hts i_NF hown hK.1 hP 0 rfl rfl 1 (by decide) (hts _ k_461) (fun _ h9 => h9) rfl d_NF_putBytes_24 ?_
  refine lv_iload_n hx hb d_NF_putBytes_27 rfl (lv_at hl 2 rfl) ?_
  refine lv_iload_n hx hb d_NF_putBytes_28 rfl (lv_at hl 0 rfl) ?_
  refine lv_ishr hx hb d_NF_putBytes_29 ?_
  refine lv_topi (fun x_11 e_12 => ?_)
  refine lv_i2b (v := x_11.toInt8.toInt32) hx hb d_NF_putBytes_30 rfl ?_
  refine lv_topi (fun x_14 e_15 => ?_)
  refine nz_bastE hx hb hK.1 hP hD hS 1 0 rfl rfl (nz_vin (by decide +kernel)) d_NF_putBytes_31 (fun H locs f_16 f_16_e hP hD hS => ?_)
  have hP : va_P D nz_cl [(o0, .inr (11, [.ref o1, .int 13, .ref o2, .ref o3, .ref o4, .ref o5, .ref o6, .ref o7, .ref o8, .ref o9, .ref o10])), (o1, .inl (cB, 1600, .inl f_16))] H := hP
  have hD : va_D A [(o0, .inr (11, [.ref o1, .int 13, .ref o2, .ref o3, .ref o4, .ref o5, .ref o6, .ref o7, .ref o8, .ref o9, .ref o10])), (o1, .inl (cB, 1600, .inl f_16))] := hD
  refine lv_aload_n hx hb d_NF_putBytes_32 rfl (lv_at hl 1 rfl) ?_
  refine lv_dup hx hb d_NF_putBytes_33 rfl ?_
  refine va_get (D := D) (ci := 11) (v := .int 13) (C := R_NF) (T := F_NF) (N := 11) hx hb hts i_NF hown hK.1 hP 0 rfl rfl 1 (by decide) (hts _ k_461) (fun _ h9 => h9) rfl d_NF_putBytes_34 ?_
  refine lv_iconst (v := 1) hx hb d_NF_putBytes_37 (by decide +kernel) ?_
  refine lv_iadd hx hb d_NF_putBytes_38 ?_
  refine nz_ctopi (v := 14) (by decide +kernel) ?_
  refine va_put (D := D) (ci := 11) (v := .int 14) (ty := .int) (C := R_NF) (T := F_NF) (N := 11) hx hb hts i_NF t_NF t_NF_ok n_NF hown hK.1 hP hD hS 0 rfl rfl 1 (by decide) (hts _ k_461) (fun _ h9 => h9) rfl (by decide +kernel) rfl rfl (Nat.le_of_ble_eq_true rfl) d_NF_putBytes_39 (fun H locs hP hD hS => ?_)
  have hP : va_P D nz_cl [(o0, .inr (11, [.ref o1, .int 14, .ref o2, .ref o3, .ref o4, .ref o5, .ref o6, .ref o7, .ref o8, .ref o9, .ref o10])), (o1, .inl (cB, 1600, .inl f_16))] H := hP
  have hD : va_D A [(o0, .inr (11, [.ref o1, .int 14, .ref o2, .ref o3, .ref o4, .ref o5, .ref o6, .ref o7, .ref o8, .ref o9, .ref o10])), (o1, .inl (cB, 1600, .inl f_16))] := hD
  refine lv_iinc (v := 8) (lv' := [(2, .int 8), (0, .ref o0), (1, .int p0)]) hx hb d_NF_putBytes_42 hl (k := 0) rfl (by decide +kernel) (by decide) rfl (fun ls hl => ?_)
  refine lv_goto (tgt := 3) hx hb d_NF_putBytes_45 (by decide) ?_
  refine lv_iload_n hx hb d_NF_putBytes_3 rfl (lv_at hl 0 rfl) ?_
  refine lv_if_lt (tgt := 48) hx hb d_NF_putBytes_4 (by decide) (fun c_17 => absurd c_17 (by decide +kernel)) (fun c_17 => ?_)
  refine lv_aload_n hx hb d_NF_putBytes_7 rfl (lv_at hl 1 rfl) ?_
  refine va_get (D := D) (ci := 11) (v := .int 14) (C := R_NF) (T := F_NF) (N := 11) hx hb hts i_NF hown hK.1 hP 0 rfl rfl 1 (by decide) (hts _ k_461) (fun _ h9 => h9) rfl d_NF_putBytes_8 ?_
  refine lv_aload_n hx hb d_NF_putBytes_11 rfl (lv_at hl 1 rfl) ?_
  refine va_get (D := D) (ci := 11) (v := .ref o1) (C := R_NF) (T := F_NF) (N := 11) hx hb hts i_NF hown hK.1 hP 0 rfl rfl 0 (by decide) (hts _ k_460) (fun _ h9 => h9) rfl d_NF_putBytes_12 ?_
  refine va_alen (v := 1600) hx hb hK.1 hP 1 0 rfl rfl rfl d_NF_putBytes_15 ?_
  refine lv_icmp_ge (tgt := 42) hx hb d_NF_putBytes_16 (by decide) (fun c_18 => absurd c_18 (by decide +kernel)) (fun c_18 => ?_)
  refine lv_aload_n hx hb d_NF_putBytes_19 rfl (lv_at hl 1 rfl) ?_
  refine va_get (D := D) (ci := 11) (v := .ref o1) (C := R_NF) (T := F_NF) (N := 11) hx hb hts i_NF hown hK.1 hP 0 rfl rfl 0 (by decide) (hts _ k_460) (fun _ h9 => h9) rfl d_NF_putBytes_20 ?_
  refine lv_aload_n hx hb d_NF_putBytes_23 rfl (lv_at hl 1 rfl) ?_
  refine va_get (D := D) (ci := 11) (v := .int 14) (C := R_NF) (T := F_NF) (N := 11) hx hb hts i_NF hown hK.1 hP 0 rfl rfl 1 (by decide) (hts _ k_461) (fun _ h9 => h9) rfl d_NF_putBytes_24 ?_
  refine lv_iload_n hx hb d_NF_putBytes_27 rfl (lv_at hl 2 rfl) ?_
  refine lv_iload_n hx hb d_NF_putBytes_28 rfl (lv_at hl 0 rfl) ?_
  refine lv_ishr hx hb d_NF_putBytes_29 ?_
  refine lv_topi (fun x_19 e_20 => ?_)
  refine lv_i2b (v := x_19.toInt8.toInt32) hx hb d_NF_putBytes_30 rfl ?_
  refine lv_topi (fun x_22 e_23 => ?_)
  refine nz_bastE hx hb hK.1 hP hD hS 1 0 rfl rfl (nz_vin (by decide +kernel)) d_NF_putBytes_31 (fun H locs f_24 f_24_e hP hD hS => ?_)
  have hP : va_P D nz_cl [(o0, .inr (11, [.ref o1, .int 14, .ref o2, .ref o3, .ref o4, .ref o5, .ref o6, .ref o7, .ref o8, .ref o9, .ref o10])), (o1, .inl (cB, 1600, .inl f_24))] H := hP
  have hD : va_D A [(o0, .inr (11, [.ref o1, .int 14, .ref o2, .ref o3, .ref o4, .ref o5, .ref o6, .ref o7, .ref o8, .ref o9, .ref o10])), (o1, .inl (cB, 1600, .inl f_24))] := hD
  refine lv_aload_n hx hb d_NF_putBytes_32 rfl (lv_at hl 1 rfl) ?_
  refine lv_dup hx hb d_NF_putBytes_33 rfl ?_
  refine va_get (D := D) (ci := 11) (v := .int 14) (C := R_NF) (T := F_NF) (N := 11) hx hb hts i_NF hown hK.1 hP 0 rfl rfl 1 (by decide) (hts _ k_461) (fun _ h9 => h9) rfl d_NF_putBytes_34 ?_
  refine lv_iconst (v := 1) hx hb d_NF_putBytes_37 (by decide +kernel) ?_
  refine lv_iadd hx hb d_NF_putBytes_38 ?_
  refine nz_ctopi (v := 15) (by decide +kernel) ?_
  refine va_put (D := D) (ci := 11) (v := .int 15) (ty := .int) (C := R_NF) (T := F_NF) (N := 11) hx hb hts i_NF t_NF t_NF_ok n_NF hown hK.1 hP hD hS 0 rfl rfl 1 (by decide) (hts _ k_461) (fun _ h9 => h9) rfl (by decide +kernel) rfl rfl (Nat.le_of_ble_eq_true rfl) d_NF_putBytes_39 (fun H locs hP hD hS => ?_)
  have hP : va_P D nz_cl [(o0, .inr (11, [.ref o1, .int 15, .ref o2, .ref o3, .ref o4, .ref o5, .ref o6, .ref o7, .ref o8, .ref o9, .ref o10])), (o1, .inl (cB, 1600, .inl f_24))] H := hP
  have hD : va_D A [(o0, .inr (11, [.ref o1, .int 15, .ref o2, .ref o3, .ref o4, .ref o5, .ref o6, .ref o7, .ref o8, .ref o9, .ref o10])), (o1, .inl (cB, 1600, .inl f_24))] := hD
  refine lv_iinc (v := 0) (lv' := [(2, .int 0), (0, .ref o0), (1, .int p0)]) hx hb d_NF_putBytes_42 hl (k := 0) rfl (by decide +kernel) (by decide) rfl (fun ls hl => ?_)
  refine lv_goto (tgt := 3) hx hb d_NF_putBytes_45 (by decide) ?_
  refine lv_iload_n hx hb d_NF_putBytes_3 rfl (lv_at hl 0 rfl) ?_
  refine lv_if_lt (tgt := 48) hx hb d_NF_putBytes_4 (by decide) (fun c_25 => absurd c_25 (by decide +kernel)) (fun c_25 => ?_)
  refine lv_aload_n hx hb d_NF_putBytes_7 rfl (lv_at hl 1 rfl) ?_
  refine va_get (D := D) (ci := 11) (v := .int 15) (C := R_NF) (T := F_NF) (N := 11) hx hb hts i_NF hown hK.1 hP 0 rfl rfl 1 (by decide) (hts _ k_461) (fun _ h9 => h9) rfl d_NF_putBytes_8 ?_
  refine lv_aload_n hx hb d_NF_putBytes_11 rfl (lv_at hl 1 rfl) ?_
  refine va_get (D := D) (ci := 11) (v := .ref o1) (C := R_NF) (T := F_NF) (N := 11) hx hb hts i_NF hown hK.1 hP 0 rfl rfl 0 (by decide) (hts _ k_460) (fun _ h9 => h9) rfl d_NF_putBytes_12 ?_
  refine va_alen (v := 1600) hx hb hK.1 hP 1 0 rfl rfl rfl d_NF_putBytes_15 ?_
  refine lv_icmp_ge (tgt := 42) hx hb d_NF_putBytes_16 (by decide) (fun c_26 => absurd c_26 (by decide +kernel)) (fun c_26 => ?_)
  refine lv_aload_n hx hb d_NF_putBytes_19 rfl (lv_at hl 1 rfl) ?_
  refine va_get (D := D) (ci := 11) (v := .ref o1) (C := R_NF) (T := F_NF) (N := 11) hx hb hts i_NF hown hK.1 hP 0 rfl rfl 0 (by decide) (hts _ k_460) (fun _ h9 => h9) rfl d_NF_putBytes_20 ?_
  refine lv_aload_n hx hb d_NF_putBytes_23 rfl (lv_at hl 1 rfl) ?_
  refine va_get (D := D) (ci := 11) (v := .int 15) (C := R_NF) (T := F_NF) (N := 11) hx hb hts i_NF hown hK.1 hP 0 rfl rfl 1 (by decide) (hts _ k_461) (fun _ h9 => h9) rfl d_NF_putBytes_24 ?_
  refine lv_iload_n hx hb d_NF_putBytes_27 rfl (lv_at hl 2 rfl) ?_
  refine lv_iload_n hx hb d_NF_putBytes_28 rfl (lv_at hl 0 rfl) ?_
  refine lv_ishr hx hb d_NF_putBytes_29 ?_
  refine lv_topi (fun x_27 e_28 => ?_)
  refine lv_i2b (v := x_27.toInt8.toInt32) hx hb d_NF_putBytes_30 rfl ?_
  refine lv_topi (fun x_30 e_31 => ?_)
  refine nz_bastE hx hb hK.1 hP hD hS 1 0 rfl rfl (nz_vin (by decide +kernel)) d_NF_putBytes_31 (fun H locs f_32 f_32_e hP hD hS => ?_)
  have hP : va_P D nz_cl [(o0, .inr (11, [.ref o1, .int 15, .ref o2, .ref o3, .ref o4, .ref o5, .ref o6, .ref o7, .ref o8, .ref o9, .ref o10])), (o1, .inl (cB, 1600, .inl f_32))] H := hP
  have hD : va_D A [(o0, .inr (11, [.ref o1, .int 15, .ref o2, .ref o3, .ref o4, .ref o5, .ref o6, .ref o7, .ref o8, .ref o9, .ref o10])), (o1, .inl (cB, 1600, .inl f_32))] := hD
  refine lv_aload_n hx hb d_NF_putBytes_32 rfl (lv_at hl 1 rfl) ?_
  refine lv_dup hx hb d_NF_putBytes_33 rfl ?_
  refine va_get (D := D) (ci := 11) (v := .int 15) (C := R_NF) (T := F_NF) (N := 11) hx hb hts i_NF hown hK.1 hP 0 rfl rfl 1 (by decide) (hts _ k_461) (fun _ h9 => h9) rfl d_NF_putBytes_34 ?_
  refine lv_iconst (v := 1) hx hb d_NF_putBytes_37 (by decide +kernel) ?_
  refine lv_iadd hx hb d_NF_putBytes_38 ?_
  refine nz_ctopi (v := 16) (by decide +kernel) ?_
  refine va_put (D := D) (ci := 11) (v := .int 16) (ty := .int) (C := R_NF) (T := F_NF) (N := 11) hx hb hts i_NF t_NF t_NF_ok n_NF hown hK.1 hP hD hS 0 rfl rfl 1 (by decide) (hts _ k_461) (fun _ h9 => h9) rfl (by decide +kernel) rfl rfl (Nat.le_of_ble_eq_true rfl) d_NF_putBytes_39 (fun H locs hP hD hS => ?_)
  have hP : va_P D nz_cl [(o0, .inr (11, [.ref o1, .int 16, .ref o2, .ref o3, .ref o4, .ref o5, .ref o6, .ref o7, .ref o8, .ref o9, .ref o10])), (o1, .inl (cB, 1600, .inl f_32))] H := hP
  have hD : va_D A [(o0, .inr (11, [.ref o1, .int 16, .ref o2, .ref o3, .ref o4, .ref o5, .ref o6, .ref o7, .ref o8, .ref o9, .ref o10])), (o1, .inl (cB, 1600, .inl f_32))] := hD
  refine lv_iinc (v := (-8)) (lv' := [(2, .int (-8)), (0, .ref o0), (1, .int p0)]) hx hb d_NF_putBytes_42 hl (k := 0) rfl (by decide +kernel) (by decide) rfl (fun ls hl => ?_)
  refine lv_goto (tgt := 3) hx hb d_NF_putBytes_45 (by decide) ?_
  refine lv_iload_n hx hb d_NF_putBytes_3 rfl (lv_at hl 0 rfl) ?_
  refine lv_if_lt (tgt := 48) hx hb d_NF_putBytes_4 (by decide) (fun c_33 => ?_) (fun c_33 => absurd (by decide +kernel) c_33)
  exact nz_retv C0 (hP.sub (ws' := [(o0, .inr (11, [.ref o1, .int 16, .ref o2, .ref o3, .ref o4, .ref o5, .ref o6, .ref o7, .ref o8, .ref o9, .ref o10])), (o1, .inl (cB, 1600, .inl f_32))]) [0, 1] rfl) (hD.sub (ws' := [(o0, .inr (11, [.ref o1, .int 16, .ref o2, .ref o3, .ref o4, .ref o5, .ref o6, .ref o7, .ref o8, .ref o9, .ref o10])), (o1, .inl (cB, 1600, .inl f_32))]) [0, 1] (by decide) rfl) hS ⟨(f_32), rfl⟩ d_NF_putBytes_48
set_option maxHeartbeats 4000000 in
set_option maxRecDepth 100000 in
theorem c_NF_putBytes_16 (l : Launch) (D : va_G) (cB cI cJ : ClassId) (o0 : Nat) (p0 : Int32) (o1 : Nat) (o2 : Nat) (o3 : Nat) (o4 : Nat) (o5 : Nat) (o6 : Nat) (o7 : Nat) (o8 : Nat) (o9 : Nat) (o10 : Nat) (ft : Nat → Int32) : nz_Cv l D cB cI cJ nz_x0 y_NF_putBytes b_NF_putBytes 3 none { frames := 0, cells := 0, slots := 0, locals := 0 } [.ref o0, .int p0] [(o0, .inr (11, [.ref o1, .int 16, .ref o2, .ref o3, .ref o4, .ref o5, .ref o6, .ref o7, .ref o8, .ref o9, .ref o10])), (o1, .inl (cB, 1600, .inl ft))] (fun w => ∃ (zf : Nat → Int32), w = [(o0, .inr (11, [.ref o1, .int 20, .ref o2, .ref o3, .ref o4, .ref o5, .ref o6, .ref o7, .ref o8, .ref o9, .ref o10])), (o1, .inl (cB, 1600, .inl zf))]) := by
  refine nz_Cv.mk (by decide) (Nat.le_of_ble_eq_true rfl) ?_
  intro p e s m below meth c A ls C0 hnm hP hD hS hA hX hl
  have C0 : nz_Cx p s m _ meth c b_NF_putBytes 3 none R_NF D cB cI cJ := C0
  obtain ⟨hx, hb, hr, hml, hown, hts, hlk, hK⟩ := id C0
  have hl : lv_has ls 3 [(0, .ref o0), (1, .int p0)] := hl
  refine lv_bipush (v := 24) hx hb d_NF_putBytes_0 (by decide +kernel) ?_
  refine lv_istore_n (lv' := [(2, .int 24), (0, .ref o0), (1, .int p0)]) hx hb d_NF_putBytes_2 rfl hl (by decide) rfl (fun ls hl => ?_)
  refine lv_iload_n hx hb d_NF_putBytes_3 rfl (lv_at hl 0 rfl) ?_
  refine lv_if_lt (tgt := 48) hx hb d_NF_putBytes_4 (by decide) (fun c_1 => absurd c_1 (by decide +kernel)) (fun c_1 => ?_)
  refine lv_aload_n hx hb d_NF_putBytes_7 rfl (lv_at hl 1 rfl) ?_
  refine va_get (D := D) (ci := 11) (v := .int 16) (C := R_NF) (T := F_NF) (N := 11) hx hb hts i_NF hown hK.1 hP 0 rfl rfl 1 (by decide) (hts _ k_461) (fun _ h9 => h9) rfl d_NF_putBytes_8 ?_
  refine lv_aload_n hx hb d_NF_putBytes_11 rfl (lv_at hl 1 rfl) ?_
  refine va_get (D := D) (ci := 11) (v := .ref o1) (C := R_NF) (T := F_NF) (N := 11) hx hb hts i_NF hown hK.1 hP 0 rfl rfl 0 (by decide) (hts _ k_460) (fun _ h9 => h9) rfl d_NF_putBytes_12 ?_
  refine va_alen (v := 1600) hx hb hK.1 hP 1 0 rfl rfl rfl d_NF_putBytes_15 ?_
  refine lv_icmp_ge (tgt := 42) hx hb d_NF_putBytes_16 (by decide) (fun c_2 => absurd c_2 (by decide +kernel)) (fun c_2 => ?_)
  refine lv_aload_n hx hb d_NF_putBytes_19 rfl (lv_at hl 1 rfl) ?_
  refine va_get (D := D) (ci := 11) (v := .ref o1) (C := R_NF) (T := F_NF) (N := 11) hx hb hts i_NF hown hK.1 hP 0 rfl rfl 0 (by decide) (hts _ k_460) (fun _ h9 => h9) rfl d_NF_putBytes_20 ?_
  refine lv_aload_n hx hb d_NF_putBytes_23 rfl (lv_at hl 1 rfl) ?_
  refine va_get (D := D) (ci := 11) (v := .int 16) (C := R_NF) (T := F_NF) (N := 11) hx hb hts i_NF hown hK.1 hP 0 rfl rfl 1 (by decide) (hts _ k_461) (fun _ h9 => h9) rfl d_NF_putBytes_24 ?_
  refine lv_iload_n hx hb d_NF_putBytes_27 rfl (lv_at hl 2 rfl) ?_
  refine lv_iload_n hx hb d_NF_putBytes_28 rfl (lv_at hl 0 rfl) ?_
  refine lv_ishr hx hb d_NF_putBytes_29 ?_
  refine lv_topi (fun x_3 e_4 => ?_)
  refine lv_i2b (v := x_3.toInt8.toInt32) hx hb d_NF_putBytes_30 rfl ?_
  refine lv_topi (fun x_6 e_7 => ?_)
  refine nz_bastE hx hb hK.1 hP hD hS 1 0 rfl rfl (nz_vin (by decide +kernel)) d_NF_putBytes_31 (fun H locs f_8 f_8_e hP hD hS => ?_)
  have hP : va_P D nz_cl [(o0, .inr (11, [.ref o1, .int 16, .ref o2, .ref o3, .ref o4, .ref o5, .ref o6, .ref o7, .ref o8, .ref o9, .ref o10])), (o1, .inl (cB, 1600, .inl f_8))] H := hP
  have hD : va_D A [(o0, .inr (11, [.ref o1, .int 16, .ref o2, .ref o3, .ref o4, .ref o5, .ref o6, .ref o7, .ref o8, .ref o9, .ref o10])), (o1, .inl (cB, 1600, .inl f_8))] := hD
  refine lv_aload_n hx hb d_NF_putBytes_32 rfl (lv_at hl 1 rfl) ?_
  refine lv_dup hx hb d_NF_putBytes_33 rfl ?_
  refine va_get (D := D) (ci := 11) (v := .int 16) (C := R_NF) (T := F_NF) (N := 11) hx hb hts i_NF hown hK.1 hP 0 rfl rfl 1 (by decide) (hts _ k_461) (fun _ h9 => h9) rfl d_NF_putBytes_34 ?_
  refine lv_iconst (v := 1) hx hb d_NF_putBytes_37 (by decide +kernel) ?_
  refine lv_iadd hx hb d_NF_putBytes_38 ?_
  refine nz_ctopi (v := 17) (by decide +kernel) ?_
  refine va_put (D := D) (ci := 11) (v := .int 17) (ty := .int) (C := R_NF) (T := F_NF) (N := 11) hx hb hts i_NF t_NF t_NF_ok n_NF hown hK.1 hP hD hS 0 rfl rfl 1 (by decide) (hts _ k_461) (fun _ h9 => h9) rfl (by decide +kernel) rfl rfl (Nat.le_of_ble_eq_true rfl) d_NF_putBytes_39 (fun H locs hP hD hS => ?_)
  have hP : va_P D nz_cl [(o0, .inr (11, [.ref o1, .int 17, .ref o2, .ref o3, .ref o4, .ref o5, .ref o6, .ref o7, .ref o8, .ref o9, .ref o10])), (o1, .inl (cB, 1600, .inl f_8))] H := hP
  have hD : va_D A [(o0, .inr (11, [.ref o1, .int 17, .ref o2, .ref o3, .ref o4, .ref o5, .ref o6, .ref o7, .ref o8, .ref o9, .ref o10])), (o1, .inl (cB, 1600, .inl f_8))] := hD
  refine lv_iinc (v := 16) (lv' := [(2, .int 16), (0, .ref o0), (1, .int p0)]) hx hb d_NF_putBytes_42 hl (k := 0) rfl (by decide +kernel) (by decide) rfl (fun ls hl => ?_)
  refine lv_goto (tgt := 3) hx hb d_NF_putBytes_45 (by decide) ?_
  refine lv_iload_n hx hb d_NF_putBytes_3 rfl (lv_at hl 0 rfl) ?_
  refine lv_if_lt (tgt := 48) hx hb d_NF_putBytes_4 (by decide) (fun c_9 => absurd c_9 (by decide +kernel)) (fun c_9 => ?_)
  refine lv_aload_n hx hb d_NF_putBytes_7 rfl (lv_at hl 1 rfl) ?_
  refine va_get (D := D) (ci := 11) (v := .int 17) (C := R_NF) (T := F_NF) (N := 11) hx hb hts i_NF hown hK.1 hP 0 rfl rfl 1 (by decide) (hts _ k_461) (fun _ h9 => h9) rfl d_NF_putBytes_8 ?_
  refine lv_aload_n hx hb d_NF_putBytes_11 rfl (lv_at hl 1 rfl) ?_
  refine va_get (D := D) (ci := 11) (v := .ref o1) (C := R_NF) (T := F_NF) (N := 11) hx hb hts i_NF hown hK.1 hP 0 rfl rfl 0 (by decide) (hts _ k_460) (fun _ h9 => h9) rfl d_NF_putBytes_12 ?_
  refine va_alen (v := 1600) hx hb hK.1 hP 1 0 rfl rfl rfl d_NF_putBytes_15 ?_
  refine lv_icmp_ge (tgt := 42) hx hb d_NF_putBytes_16 (by decide) (fun c_10 => absurd c_10 (by decide +kernel)) (fun c_10 => ?_)
  refine lv_aload_n hx hb d_NF_putBytes_19 rfl (lv_at hl 1 rfl) ?_
  refine va_get (D := D) (ci := 11) (v := .ref o1) (C := R_NF) (T := F_NF) (N := 11) hx hb hts i_NF hown hK.1 hP 0 rfl rfl 0 (by decide) (hts _ k_460) (fun _ h9 => h9) rfl d_NF_putBytes_20 ?_
  refine lv_aload_n hx hb d_NF_putBytes_23 rfl (lv_at hl 1 rfl) ?_
  refine va_get (D := D) (ci := 11) (v := .int 17) (C := R_NF) (T := F_NF) (N := 11) hx hb hts i_NF hown hK.1 hP 0 rfl rfl 1 (by decide) (hts _ k_461) (fun _ h9 => h9) rfl d_NF_putBytes_24 ?_
  refine lv_iload_n hx hb d_NF_putBytes_27 rfl (lv_at hl 2 rfl) ?_
  refine lv_iload_n hx hb d_NF_putBytes_28 rfl (lv_at hl 0 rfl) ?_
  refine lv_ishr hx hb d_NF_putBytes_29 ?_
  refine lv_topi (fun x_11 e_12 => ?_)
  refine lv_i2b (v := x_11.toInt8.toInt32) hx hb d_NF_putBytes_30 rfl ?_
  refine lv_topi (fun x_14 e_15 => ?_)
  refine nz_bastE hx hb hK.1 hP hD hS 1 0 rfl rfl (nz_vin (by decide +kernel)) d_NF_putBytes_31 (fun H locs f_16 f_16_e hP hD hS => ?_)
  have hP : va_P D nz_cl [(o0, .inr (11, [.ref o1, .int 17, .ref o2, .ref o3, .ref o4, .ref o5, .ref o6, .ref o7, .ref o8, .ref o9, .ref o10])), (o1, .inl (cB, 1600, .inl f_16))] H := hP
  have hD : va_D A [(o0, .inr (11, [.ref o1, .int 17, .ref o2, .ref o3, .ref o4, .ref o5, .ref o6, .ref o7, .ref o8, .ref o9, .ref o10])), (o1, .inl (cB, 1600, .inl f_16))] := hD
  refine lv_aload_n hx hb d_NF_putBytes_32 rfl (lv_at hl 1 rfl) ?_
  refine lv_dup hx hb d_NF_putBytes_33 rfl ?_
  refine va_get (D := D) (ci := 11) (v := .int 17) (C := R_NF) (T := F_NF) (N := 11) hx hb hts i_NF hown hK.1 hP 0 rfl rfl 1 (by decide) (hts _ k_461) (fun _ h9 => h9) rfl d_NF_putBytes_34 ?_
  refine lv_iconst (v := 1) hx hb d_NF_putBytes_37 (by decide +kernel) ?_
  refine lv_iadd hx hb d_NF_putBytes_38 ?_
  refine nz_ctopi (v := 18) (by decide +kernel) ?_
  refine va_put (D := D) (ci := 11) (v := .int 18) (ty := .int) (C := R_NF) (T := F_NF) (N := 11) hx hb hts i_NF t_NF t_NF_ok n_NF hown hK.1 hP hD hS 0 rfl rfl 1 (by decide) (hts _ k_461) (fun _ h9 => h9) rfl (by decide +kernel) rfl rfl (Nat.le_of_ble_eq_true rfl) d_NF_putBytes_39 (fun H locs hP hD hS => ?_)
  have hP : va_P D nz_cl [(o0, .inr (11, [.ref o1, .int 18, .ref o2, .ref o3, .ref o4, .ref o5, .ref o6, .ref o7, .ref o8, .ref o9, .ref o10])), (o1, .inl (cB, 1600, .inl f_16))] H := hP
  have hD : va_D A [(o0, .inr (11, [.ref o1, .int 18, .ref o2, .ref o3, .ref o4, .ref o5, .ref o6, .ref o7, .ref o8, .ref o9, .ref o10])), (o1, .inl (cB, 1600, .inl f_16))] := hD
  refine lv_iinc (v := 8) (lv' := [(2, .int 8), (0, .ref o0), (1, .int p0)]) hx hb d_NF_putBytes_42 hl (k := 0) rfl (by decide +kernel) (by decide) rfl (fun ls hl => ?_)
  refine lv_goto (tgt := 3) hx hb d_NF_putBytes_45 (by decide) ?_
  refine lv_iload_n hx hb d_NF_putBytes_3 rfl (lv_at hl 0 rfl) ?_
  refine lv_if_lt (tgt := 48) hx hb d_NF_putBytes_4 (by decide) (fun c_17 => absurd c_17 (by decide +kernel)) (fun c_17 => ?_)
  refine lv_aload_n hx hb d_NF_putBytes_7 rfl (lv_at hl 1 rfl) ?_
  refine va_get (D := D) (ci := 11) (v := .int 18) (C := R_NF) (T := F_NF) (N := 11) hx hb hts i_NF hown hK.1 hP 0 rfl rfl 1 (by decide) (hts _ k_461) (fun _ h9 => h9) rfl d_NF_putBytes_8 ?_
  refine lv_aload_n hx hb d_NF_putBytes_11 rfl (lv_at hl 1 rfl) ?_
  refine va_get (D := D) (ci := 11) (v := .ref o1) (C := R_NF) (T := F_NF) (N := 11) hx hb hts i_NF hown hK.1 hP 0 rfl rfl 0 (by decide) (hts _ k_460) (fun _ h9 => h9) rfl d_NF_putBytes_12 ?_
  refine va_alen (v := 1600) hx hb hK.1 hP 1 0 rfl rfl rfl d_NF_putBytes_15 ?_
  refine lv_icmp_ge (tgt := 42) hx hb d_NF_putBytes_16 (by decide) (fun c_18 => absurd c_18 (by decide +kernel)) (fun c_18 => ?_)
  refine lv_aload_n hx hb d_NF_putBytes_19 rfl (lv_at hl 1 rfl) ?_
  refine va_get (D := D) (ci := 11) (v := .ref o1) (C := R_NF) (T := F_NF) (N := 11) hx hb hts i_NF hown hK.1 hP 0 rfl rfl 0 (by decide) (hts _ k_460) (fun _ h9 => h9) rfl d_NF_putBytes_20 ?_
  refine lv_aload_n hx hb d_NF_putBytes_23 rfl (lv_at hl 1 rfl) ?_
  refine va_get (D := D) (ci := 11) (v := .int 18) (C := R_NF) (T := F_NF) (N := 11) hx hb hts i_NF hown hK.1 hP 0 rfl rfl 1 (by decide) (hts _ k_461) (fun _ h9 => h9) rfl d_NF_putBytes_24 ?_
  refine lv_iload_n hx hb d_NF_putBytes_27 rfl (lv_at hl 2 rfl) ?_
  refine lv_iload_n hx hb d_NF_putBytes_28 rfl (lv_at hl 0 rfl) ?_
  refine lv_ishr hx hb d_NF_putBytes_29 ?_
  refine lv_topi (fun x_19 e_20 => ?_)
  refine lv_i2b (v := x_19.toInt8.toInt32) hx hb d_NF_putBytes_30 rfl ?_
  refine lv_topi (fun x_22 e_23 => ?_)
  refine nz_bastE hx hb hK.1 hP hD hS 1 0 rfl rfl (nz_vin (by decide +kernel)) d_NF_putBytes_31 (fun H locs f_24 f_24_e hP hD hS => ?_)
  have hP : va_P D nz_cl [(o0, .inr (11, [.ref o1, .int 18, .ref o2, .ref o3, .ref o4, .ref o5, .ref o6, .ref o7, .ref o8, .ref o9, .ref o10])), (o1, .inl (cB, 1600, .inl f_24))] H := hP
  have hD : va_D A [(o0, .inr (11, [.ref o1, .int 18, .ref o2, .ref o3, .ref o4, .ref o5, .ref o6, .ref o7, .ref o8, .ref o9, .ref o10])), (o1, .inl (cB, 1600, .inl f_24))] := hD
  refine lv_aload_n hx hb d_NF_putBytes_32 rfl (lv_at hl 1 rfl) ?_
  refine lv_dup hx hb d_NF_putBytes_33 rfl ?_
  refine va_get (D := D) (ci := 11) (v := .int 18) (C := R_NF) (T := F_NF) (N := 11) hx hb hts i_NF hown hK.1 hP 0 rfl rfl 1 (by decide) (hts _ k_461) (fun _ h9 => h9) rfl d_NF_putBytes_34 ?_
  refine lv_iconst (v := 1) hx hb d_NF_putBytes_37 (by decide +kernel) ?_
  refine lv_iadd hx hb d_NF_putBytes_38 ?_
  refine nz_ctopi (v := 19) (by decide +kernel) ?_
  refine va_put (D := D) (ci := 11) (v := .int 19) (ty := .int) (C := R_NF) (T := F_NF) (N := 11) hx hb hts i_NF t_NF t_NF_ok n_NF hown hK.1 hP hD hS 0 rfl rfl 1 (by decide) (hts _ k_461) (fun _ h9 => h9) rfl (by decide +kernel) rfl rfl (Nat.le_of_ble_eq_true rfl) d_NF_putBytes_39 (fun H locs hP hD hS => ?_)
  have hP : va_P D nz_cl [(o0, .inr (11, [.ref o1, .int 19, .ref o2, .ref o3, .ref o4, .ref o5, .ref o6, .ref o7, .ref o8, .ref o9, .ref o10])), (o1, .inl (cB, 1600, .inl f_24))] H := hP
  have hD : va_D A [(o0, .inr (11, [.ref o1, .int 19, .ref o2, .ref o3, .ref o4, .ref o5, .ref o6, .ref o7, .ref o8, .ref o9, .ref o10])), (o1, .inl (cB, 1600, .inl f_24))] := hD
  refine lv_iinc (v := 0) (lv' := [(2, .int 0), (0, .ref o0), (1, .int p0)]) hx hb d_NF_putBytes_42 hl (k := 0) rfl (by decide +kernel) (by decide) rfl (fun ls hl => ?_)
  refine lv_goto (tgt := 3) hx hb d_NF_putBytes_45 (by decide) ?_
  refine lv_iload_n hx hb d_NF_putBytes_3 rfl (lv_at hl 0 rfl) ?_
  refine lv_if_lt (tgt := 48) hx hb d_NF_putBytes_4 (by decide) (fun c_25 => absurd c_25 (by decide +kernel)) (fun c_25 => ?_)
  refine lv_aload_n hx hb d_NF_putBytes_7 rfl (lv_at hl 1 rfl) ?_
  refine va_get (D := D) (ci := 11) (v := .int 19) (C := R_NF) (T := F_NF) (N := 11) hx hb hts i_NF hown hK.1 hP 0 rfl rfl 1 (by decide) (hts _ k_461) (fun _ h9 => h9) rfl d_NF_putBytes_8 ?_
  refine lv_aload_n hx hb d_NF_putBytes_11 rfl (lv_at hl 1 rfl) ?_
  refine va_get (D := D) (ci := 11) (v := .ref o1) (C := R_NF) (T := F_NF) (N := 11) hx hb hts i_NF hown hK.1 hP 0 rfl rfl 0 (by decide) (hts _ k_460) (fun _ h9 => h9) rfl d_NF_putBytes_12 ?_
  refine va_alen (v := 1600) hx hb hK.1 hP 1 0 rfl rfl rfl d_NF_putBytes_15 ?_
  refine lv_icmp_ge (tgt := 42) hx hb d_NF_putBytes_16 (by decide) (fun c_26 => absurd c_26 (by decide +kernel)) (fun c_26 => ?_)
  refine lv_aload_n hx hb d_NF_putBytes_19 rfl (lv_at hl 1 rfl) ?_
  refine va_get (D := D) (ci := 11) (v := .ref o1) (C := R_NF) (T := F_NF) (N := 11) hx hb hts i_NF hown hK.1 hP 0 rfl rfl 0 (by decide) (hts _ k_460) (fun _ h9 => h9) rfl d_NF_putBytes_20 ?_
  refine lv_aload_n hx hb d_NF_putBytes_23 rfl (lv_at hl 1 rfl) ?_
  refine va_get (D := D) (ci := 11) (v := .int 19) (C := R_NF) (T := F_NF) (N := 11) hx hb hts i_NF hown hK.1 hP 0 rfl rfl 1 (by decide) (hts _ k_461) (fun _ h9 => h9) rfl d_NF_putBytes_24 ?_
  refine lv_iload_n hx hb d_NF_putBytes_27 rfl (lv_at hl 2 rfl) ?_
  refine lv_iload_n hx hb d_NF_putBytes_28 rfl (lv_at hl 0 rfl) ?_
  refine lv_ishr hx hb d_NF_putBytes_29 ?_
  refine lv_topi (fun x_27 e_28 => ?_)
  refine lv_i2b (v := x_27.toInt8.toInt32) hx hb d_NF_putBytes_30 rfl ?_
  refine lv_topi (fun x_30 e_31 => ?_)
  refine nz_bastE hx hb hK.1 hP hD hS 1 0 rfl rfl (nz_vin (by decide +kernel)) d_NF_putBytes_31 (fun H locs f_32 f_32_e hP hD hS => ?_)
  have hP : va_P D nz_cl [(o0, .inr (11, [.ref o1, .int 19, .ref o2, .ref o3, .ref o4, .ref o5, .ref o6, .ref o7, .ref o8, .ref o9, .ref o10])), (o1, .inl (cB, 1600, .inl f_32))] H := hP
  have hD : va_D A [(o0, .inr (11, [.ref o1, .int 19, .ref o2, .ref o3, .ref o4, .ref o5, .ref o6, .ref o7, .ref o8, .ref o9, .ref o10])), (o1, .inl (cB, 1600, .inl f_32))] := hD
  refine lv_aload_n hx hb d_NF_putBytes_32 rfl (lv_at hl 1 rfl) ?_
  refine lv_dup hx hb d_NF_putBytes_33 rfl ?_
  refine va_get (D := D) (ci := 11) (v := .int 19) (C := R_NF) (T := F_NF) (N := 11) hx hb hts i_NF hown hK.1 hP 0 rfl rfl 1 (by decide) (hts _ k_461) (fun _ h9 => h9) rfl d_NF_putBytes_34 ?_
  refine lv_iconst (v := 1) hx hb d_NF_putBytes_37 (by decide +kernel) ?_
  refine lv_iadd hx hb d_NF_putBytes_38 ?_
  refine nz_ctopi (v := 20) (by decide +kernel) ?_
  refine va_put (D := D) (ci := 11) (v := .int 20) (ty := .int) (C := R_NF) (T := F_NF) (N := 11) hx hb hts i_NF t_NF t_NF_ok n_NF hown hK.1 hP hD hS 0 rfl rfl 1 (by decide) (hts _ k_461) (fun _ h9 => h9) rfl (by decide +kernel) rfl rfl (Nat.le_of_ble_eq_true rfl) d_NF_putBytes_39 (fun H locs hP hD hS => ?_)
  have hP : va_P D nz_cl [(o0, .inr (11, [.ref o1, .int 20, .ref o2, .ref o3, .ref o4, .ref o5, .ref o6, .ref o7, .ref o8, .ref o9, .ref o10])), (o1, .inl (cB, 1600, .inl f_32))] H := hP
  have hD : va_D A [(o0, .inr (11, [.ref o1, .int 20, .ref o2, .ref o3, .ref o4, .ref o5, .ref o6, .ref o7, .ref o8, .ref o9, .ref o10])), (o1, .inl (cB, 1600, .inl f_32))] := hD
  refine lv_iinc (v := (-8)) (lv' := [(2, .int (-8)), (0, .ref o0), (1, .int p0)]) hx hb d_NF_putBytes_42 hl (k := 0) rfl (by decide +kernel) (by decide) rfl (fun ls hl => ?_)
  refine lv_goto (tgt := 3) hx hb d_NF_putBytes_45 (by decide) ?_
  refine lv_iload_n hx hb d_NF_putBytes_3 rfl (lv_at hl 0 rfl) ?_
  refine lv_if_lt (tgt := 48) hx hb d_NF_putBytes_4 (by decide) (fun c_33 => ?_) (fun c_33 => absurd (by decide +kernel) c_33)
  exact nz_retv C0 (hP.sub (ws' := [(o0, .inr (11, [.ref o1, .int 20, .ref o2, .ref o3, .ref o4, .ref o5, .ref o6, .ref o7, .ref o8, .ref o9, .ref o10])), (o1, .inl (cB, 1600, .inl f_32))]) [0, 1] rfl) (hD.sub (ws' := [(o0, .inr (11, [.ref o1, .int 20, .ref o2, .ref o3, .ref o4, .ref o5, .ref o6, .ref o7, .ref o8, .ref o9, .ref o10])), (o1, .inl (cB, 1600, .inl f_32))]) [0, 1] (by decide) rfl) hS ⟨(f_32), rfl⟩ d_NF_putBytes_48
set_option maxHeartbeats 4000000 in
set_option maxRecDepth 100000 in
theorem c_NF_feed (l : Launch) (D : va_G) (cB cI cJ : ClassId) (o0 : Nat) (p0 : Int32) (p1 : Int32) (p2 : Int32) (p3 : Int32) (p4 : Int32) (o1 : Nat) (o2 : Nat) (o3 : Nat) (o4 : Nat) (o5 : Nat) (o6 : Nat) (o7 : Nat) (o8 : Nat) (o9 : Nat) (o10 : Nat) (ft : Nat → Int32) : nz_Ci l D cB cI cJ nz_x0 y_NF_feed b_NF_feed 6 (some .int) { frames := 1, cells := 0, slots := 0, locals := 22 } [.ref o0, .int p0, .int p1, .int p2, .int p3, .int p4] [(o0, .inr (11, [.ref o1, .int 0, .ref o2, .ref o3, .ref o4, .ref o5, .ref o6, .ref o7, .ref o8, .ref o9, .ref o10])), (o1, .inl (cB, 1600, .inl ft))] (fun r w => ∃ (zf : Nat → Int32), r = 20 ∧ w = [(o0, .inr (11, [.ref o1, .int 20, .ref o2, .ref o3, .ref o4, .ref o5, .ref o6, .ref o7, .ref o8, .ref o9, .ref o10])), (o1, .inl (cB, 1600, .inl zf))]) := by
  refine nz_Ci.mk (by decide) (Nat.le_of_ble_eq_true rfl) ?_
  intro p e s m below meth c A ls C0 hnm hP hD hS hA hX hl
  have C0 : nz_Cx p s m _ meth c b_NF_feed 6 (some .int) R_NF D cB cI cJ := C0
  obtain ⟨hx, hb, hr, hml, hown, hts, hlk, hK⟩ := id C0
  have hl : lv_has ls 6 [(0, .ref o0), (1, .int p0), (2, .int p1), (3, .int p2), (4, .int p3), (5, .int p4)] := hl
  refine lv_aload_n hx hb d_NF_feed_0 rfl (lv_at hl 0 rfl) ?_
  refine va_get (D := D) (ci := 11) (v := .int 0) (C := R_NF) (T := F_NF) (N := 11) hx hb hts i_NF hown hK.1 hP 0 rfl rfl 1 (by decide) (hts _ k_461) (fun _ h9 => h9) rfl d_NF_feed_1 ?_
  refine lv_bipush (v := 20) hx hb d_NF_feed_4 (by decide +kernel) ?_
  refine lv_iadd hx hb d_NF_feed_6 ?_
  refine nz_ctopi (v := 20) (by decide +kernel) ?_
  refine lv_sipush (v := 1600) hx hb d_NF_feed_7 (by decide +kernel) ?_
  refine lv_icmp_le (tgt := 15) hx hb d_NF_feed_10 (by decide) (fun c_1 => ?_) (fun c_1 => absurd (by decide +kernel) c_1)
  refine lv_aload_n hx hb d_NF_feed_15 rfl (lv_at hl 0 rfl) ?_
  refine lv_iload_n hx hb d_NF_feed_16 rfl (lv_at hl 1 rfl) ?_
  refine nz_calVv (As := [.int p0]) (rest := []) C0 (c_NF_putBytes_0 l D cB cI cJ o0 p0 o1 o2 o3 o4 o5 o6 o7 o8 o9 o10 ft) g_NF_80 rfl nz_xb0 (by decide) hl.1 hP hD hS hA [0, 1] [] rfl (wr := []) rfl (by decide) (by decide) (by decide) rfl rfl (fun _ _ _ => trivial) rfl (by decide) d_NF_feed_17 (by decide) (fun u H locs h_3 hP hD hS => ?_)
  obtain ⟨z_2, rfl⟩ := h_3
  have hP : va_P D nz_cl [(o0, .inr (11, [.ref o1, .int 4, .ref o2, .ref o3, .ref o4, .ref o5, .ref o6, .ref o7, .ref o8, .ref o9, .ref o10])), (o1, .inl (cB, 1600, .inl z_2))] H := hP
  have hD : va_D A [(o0, .inr (11, [.ref o1, .int 4, .ref o2, .ref o3, .ref o4, .ref o5, .ref o6, .ref o7, .ref o8, .ref o9, .ref o10])), (o1, .inl (cB, 1600, .inl z_2))] := hD
  refine lv_aload_n hx hb d_NF_feed_20 rfl (lv_at hl 0 rfl) ?_
  refine lv_iload_n hx hb d_NF_feed_21 rfl (lv_at hl 2 rfl) ?_
  refine nz_calVv (As := [.int p1]) (rest := []) C0 (c_NF_putBytes_4 l D cB cI cJ o0 p1 o1 o2 o3 o4 o5 o6 o7 o8 o9 o10 z_2) g_NF_80 rfl nz_xb0 (by decide) hl.1 hP hD hS hA [0, 1] [] rfl (wr := []) rfl (by decide) (by decide) (by decide) rfl rfl (fun _ _ _ => trivial) rfl (by decide) d_NF_feed_22 (by decide) (fun u H locs h_5 hP hD hS => ?_)
  obtain ⟨z_4, rfl⟩ := h_5
  have hP : va_P D nz_cl [(o0, .inr (11, [.ref o1, .int 8, .ref o2, .ref o3, .ref o4, .ref o5, .ref o6, .ref o7, .ref o8, .ref o9, .ref o10])), (o1, .inl (cB, 1600, .inl z_4))] H := hP
  have hD : va_D A [(o0, .inr (11, [.ref o1, .int 8, .ref o2, .ref o3, .ref o4, .ref o5, .ref o6, .ref o7, .ref o8, .ref o9, .ref o10])), (o1, .inl (cB, 1600, .inl z_4))] := hD
  refine lv_aload_n hx hb d_NF_feed_25 rfl (lv_at hl 0 rfl) ?_
  refine lv_iload_n hx hb d_NF_feed_26 rfl (lv_at hl 3 rfl) ?_
  refine nz_calVv (As := [.int p2]) (rest := []) C0 (c_NF_putBytes_8 l D cB cI cJ o0 p2 o1 o2 o3 o4 o5 o6 o7 o8 o9 o10 z_4) g_NF_80 rfl nz_xb0 (by decide) hl.1 hP hD hS hA [0, 1] [] rfl (wr := []) rfl (by decide) (by decide) (by decide) rfl rfl (fun _ _ _ => trivial) rfl (by decide) d_NF_feed_27 (by decide) (fun u H locs h_7 hP hD hS => ?_)
  obtain ⟨z_6, rfl⟩ := h_7
  have hP : va_P D nz_cl [(o0, .inr (11, [.ref o1, .int 12, .ref o2, .ref o3, .ref o4, .ref o5, .ref o6, .ref o7, .ref o8, .ref o9, .ref o10])), (o1, .inl (cB, 1600, .inl z_6))] H := hP
  have hD : va_D A [(o0, .inr (11, [.ref o1, .int 12, .ref o2, .ref o3, .ref o4, .ref o5, .ref o6, .ref o7, .ref o8, .ref o9, .ref o10])), (o1, .inl (cB, 1600, .inl z_6))] := hD
  refine lv_aload_n hx hb d_NF_feed_30 rfl (lv_at hl 0 rfl) ?_
  refine lv_iload hx hb d_NF_feed_31 (lv_at hl 4 rfl) ?_
  refine nz_calVv (As := [.int p3]) (rest := []) C0 (c_NF_putBytes_12 l D cB cI cJ o0 p3 o1 o2 o3 o4 o5 o6 o7 o8 o9 o10 z_6) g_NF_80 rfl nz_xb0 (by decide) hl.1 hP hD hS hA [0, 1] [] rfl (wr := []) rfl (by decide) (by decide) (by decide) rfl rfl (fun _ _ _ => trivial) rfl (by decide) d_NF_feed_33 (by decide) (fun u H locs h_9 hP hD hS => ?_)
  obtain ⟨z_8, rfl⟩ := h_9
  have hP : va_P D nz_cl [(o0, .inr (11, [.ref o1, .int 16, .ref o2, .ref o3, .ref o4, .ref o5, .ref o6, .ref o7, .ref o8, .ref o9, .ref o10])), (o1, .inl (cB, 1600, .inl z_8))] H := hP
  have hD : va_D A [(o0, .inr (11, [.ref o1, .int 16, .ref o2, .ref o3, .ref o4, .ref o5, .ref o6, .ref o7, .ref o8, .ref o9, .ref o10])), (o1, .inl (cB, 1600, .inl z_8))] := hD
  refine lv_aload_n hx hb d_NF_feed_36 rfl (lv_at hl 0 rfl) ?_
  refine lv_iload hx hb d_NF_feed_37 (lv_at hl 5 rfl) ?_
  refine nz_calVv (As := [.int p4]) (rest := []) C0 (c_NF_putBytes_16 l D cB cI cJ o0 p4 o1 o2 o3 o4 o5 o6 o7 o8 o9 o10 z_8) g_NF_80 rfl nz_xb0 (by decide) hl.1 hP hD hS hA [0, 1] [] rfl (wr := []) rfl (by decide) (by decide) (by decide) rfl rfl (fun _ _ _ => trivial) rfl (by decide) d_NF_feed_39 (by decide) (fun u H locs h_11 hP hD hS => ?_)
  obtain ⟨z_10, rfl⟩ := h_11
  have hP : va_P D nz_cl [(o0, .inr (11, [.ref o1, .int 20, .ref o2, .ref o3, .ref o4, .ref o5, .ref o6, .ref o7, .ref o8, .ref o9, .ref o10])), (o1, .inl (cB, 1600, .inl z_10))] H := hP
  have hD : va_D A [(o0, .inr (11, [.ref o1, .int 20, .ref o2, .ref o3, .ref o4, .ref o5, .ref o6, .ref o7, .ref o8, .ref o9, .ref o10])), (o1, .inl (cB, 1600, .inl z_10))] := hD
  refine lv_aload_n hx hb d_NF_feed_42 rfl (lv_at hl 0 rfl) ?_
  refine va_get (D := D) (ci := 11) (v := .int 20) (C := R_NF) (T := F_NF) (N := 11) hx hb hts i_NF hown hK.1 hP 0 rfl rfl 1 (by decide) (hts _ k_461) (fun _ h9 => h9) rfl d_NF_feed_43 ?_
  exact nz_reti C0 (hP.sub (ws' := [(o0, .inr (11, [.ref o1, .int 20, .ref o2, .ref o3, .ref o4, .ref o5, .ref o6, .ref o7, .ref o8, .ref o9, .ref o10])), (o1, .inl (cB, 1600, .inl z_10))]) [0, 1] rfl) (hD.sub (ws' := [(o0, .inr (11, [.ref o1, .int 20, .ref o2, .ref o3, .ref o4, .ref o5, .ref o6, .ref o7, .ref o8, .ref o9, .ref o10])), (o1, .inl (cB, 1600, .inl z_10))]) [0, 1] (by decide) rfl) hS ⟨(z_10), rfl, rfl⟩ d_NF_feed_46
end
section
set_option maxHeartbeats 4000000 in
set_option maxRecDepth 100000 in
theorem c_Mo_isIn_m1 (l : Launch) (D : va_G) (cB cI cJ : ClassId) (p0 : Int32) : nz_Ci l D cB cI cJ nz_x0 y_Mo_isIn b_Mo_isIn 3 (some .boolean) { frames := 0, cells := 0, slots := 0, locals := 0 } [.int p0, .int 0, .int (-1)] [] (fun r w => r = 0 ∧ w = []) := by
  refine nz_Ci.mk (by decide) (Nat.le_of_ble_eq_true rfl) ?_
  intro p e s m below meth c A ls C0 hnm hP hD hS hA hX hl
  have C0 : nz_Cx p s m _ meth c b_Mo_isIn 3 (some .boolean) R_Mo D cB cI cJ := C0
  obtain ⟨hx, hb, hr, hml, hown, hts, hlk, hK⟩ := id C0
  have hl : lv_has ls 3 [(0, .int p0), (1, .int 0), (2, .int (-1))] := hl
  refine lv_iload_n hx hb d_Mo_isIn_0 rfl (lv_at hl 0 rfl) ?_
  refine lv_iload_n hx hb d_Mo_isIn_1 rfl (lv_at hl 1 rfl) ?_
  refine lv_icmp_lt (tgt := 14) hx hb d_Mo_isIn_2 (by decide) (fun c_1 => ?_) (fun c_1 => ?_)
  · refine lv_iconst (v := 0) hx hb d_Mo_isIn_14 (by decide +kernel) ?_
    exact nz_retz C0 (by decide +kernel) (hP.sub (ws' := []) [] rfl) (hD.sub (ws' := []) [] (by decide) rfl) hS ⟨rfl, rfl⟩ d_Mo_isIn_15
  · refine lv_iload_n hx hb d_Mo_isIn_5 rfl (lv_at hl 0 rfl) ?_
    refine lv_iload_n hx hb d_Mo_isIn_6 rfl (lv_at hl 2 rfl) ?_
    refine lv_icmp_gt (tgt := 14) hx hb d_Mo_isIn_7 (by decide) (fun c_2 => ?_) (fun c_2 => ?_)
    · refine lv_iconst (v := 0) hx hb d_Mo_isIn_14 (by decide +kernel) ?_
      exact nz_retz C0 (by decide +kernel) (hP.sub (ws' := []) [] rfl) (hD.sub (ws' := []) [] (by decide) rfl) hS ⟨rfl, rfl⟩ d_Mo_isIn_15
    · exfalso; have z0 : ((-1) : Int32).toInt = -1 := (by decide +kernel); have z1 : (0 : Int32).toInt = 0 := (by decide +kernel); simp only [Int32.lt_iff_toInt_lt, Int32.le_iff_toInt_le, ← Int32.toInt_inj] at c_1 c_2; omega
set_option maxHeartbeats 4000000 in
set_option maxRecDepth 100000 in
theorem c_Mo_isIn_m2 (l : Launch) (D : va_G) (cB cI cJ : ClassId) (p0 : Int32) : nz_Ci l D cB cI cJ nz_x0 y_Mo_isIn b_Mo_isIn 3 (some .boolean) { frames := 0, cells := 0, slots := 0, locals := 0 } [.int p0, .int 0, .int (-2)] [] (fun r w => r = 0 ∧ w = []) := by
  refine nz_Ci.mk (by decide) (Nat.le_of_ble_eq_true rfl) ?_
  intro p e s m below meth c A ls C0 hnm hP hD hS hA hX hl
  have C0 : nz_Cx p s m _ meth c b_Mo_isIn 3 (some .boolean) R_Mo D cB cI cJ := C0
  obtain ⟨hx, hb, hr, hml, hown, hts, hlk, hK⟩ := id C0
  have hl : lv_has ls 3 [(0, .int p0), (1, .int 0), (2, .int (-2))] := hl
  refine lv_iload_n hx hb d_Mo_isIn_0 rfl (lv_at hl 0 rfl) ?_
  refine lv_iload_n hx hb d_Mo_isIn_1 rfl (lv_at hl 1 rfl) ?_
  refine lv_icmp_lt (tgt := 14) hx hb d_Mo_isIn_2 (by decide) (fun c_1 => ?_) (fun c_1 => ?_)
  · refine lv_iconst (v := 0) hx hb d_Mo_isIn_14 (by decide +kernel) ?_
    exact nz_retz C0 (by decide +kernel) (hP.sub (ws' := []) [] rfl) (hD.sub (ws' := []) [] (by decide) rfl) hS ⟨rfl, rfl⟩ d_Mo_isIn_15
  · refine lv_iload_n hx hb d_Mo_isIn_5 rfl (lv_at hl 0 rfl) ?_
    refine lv_iload_n hx hb d_Mo_isIn_6 rfl (lv_at hl 2 rfl) ?_
    refine lv_icmp_gt (tgt := 14) hx hb d_Mo_isIn_7 (by decide) (fun c_2 => ?_) (fun c_2 => ?_)
    · refine lv_iconst (v := 0) hx hb d_Mo_isIn_14 (by decide +kernel) ?_
      exact nz_retz C0 (by decide +kernel) (hP.sub (ws' := []) [] rfl) (hD.sub (ws' := []) [] (by decide) rfl) hS ⟨rfl, rfl⟩ d_Mo_isIn_15
    · exfalso; have z0 : ((-2) : Int32).toInt = -2 := (by decide +kernel); have z1 : (0 : Int32).toInt = 0 := (by decide +kernel); simp only [Int32.lt_iff_toInt_lt, Int32.le_iff_toInt_le, ← Int32.toInt_inj] at c_1 c_2; omega
set_option maxHeartbeats 4000000 in
set_option maxRecDepth 100000 in
theorem c_Mo_isIn_k (l : Launch) (D : va_G) (cB cI cJ : ClassId) (p0 : Int32) : nz_Ci l D cB cI cJ nz_x0 y_Mo_isIn b_Mo_isIn 3 (some .boolean) { frames := 0, cells := 0, slots := 0, locals := 0 } [.int p0, .int 0, .int 1000] [] (fun r w => r = nz_in p0 ∧ w = []) := by
  refine nz_Ci.mk (by decide) (Nat.le_of_ble_eq_true rfl) ?_
  intro p e s m below meth c A ls C0 hnm hP hD hS hA hX hl
  have C0 : nz_Cx p s m _ meth c b_Mo_isIn 3 (some .boolean) R_Mo D cB cI cJ := C0
  obtain ⟨hx, hb, hr, hml, hown, hts, hlk, hK⟩ := id C0
  have hl : lv_has ls 3 [(0, .int p0), (1, .int 0), (2, .int 1000)] := hl
  refine lv_iload_n hx hb d_Mo_isIn_0 rfl (lv_at hl 0 rfl) ?_
  refine lv_iload_n hx hb d_Mo_isIn_1 rfl (lv_at hl 1 rfl) ?_
  refine lv_icmp_lt (tgt := 14) hx hb d_Mo_isIn_2 (by decide) (fun c_1 => ?_) (fun c_1 => ?_)
  · refine lv_iconst (v := 0) hx hb d_Mo_isIn_14 (by decide +kernel) ?_
    exact nz_retz C0 (by decide +kernel) (hP.sub (ws' := []) [] rfl) (hD.sub (ws' := []) [] (by decide) rfl) hS ⟨(by unfold nz_in; (try first | rw [if_pos c_1] | rw [if_neg c_1] | rw [if_pos (Int32.not_le.mp c_1)] | rw [if_neg (Int32.not_lt.mpr c_1)] | rw [if_pos (Decidable.not_not.mp c_1)])), rfl⟩ d_Mo_isIn_15
  · refine lv_iload_n hx hb d_Mo_isIn_5 rfl (lv_at hl 0 rfl) ?_
    refine lv_iload_n hx hb d_Mo_isIn_6 rfl (lv_at hl 2 rfl) ?_
    refine lv_icmp_gt (tgt := 14) hx hb d_Mo_isIn_7 (by decide) (fun c_2 => ?_) (fun c_2 => ?_)
    · refine lv_iconst (v := 0) hx hb d_Mo_isIn_14 (by decide +kernel) ?_
      exact nz_retz C0 (by decide +kernel) (hP.sub (ws' := []) [] rfl) (hD.sub (ws' := []) [] (by decide) rfl) hS ⟨(by unfold nz_in; (try first | rw [if_pos c_1] | rw [if_neg c_1] | rw [if_pos (Int32.not_le.mp c_1)] | rw [if_neg (Int32.not_lt.mpr c_1)] | rw [if_pos (Decidable.not_not.mp c_1)]); (try first | rw [if_pos c_2] | rw [if_neg c_2] | rw [if_pos (Int32.not_le.mp c_2)] | rw [if_neg (Int32.not_lt.mpr c_2)] | rw [if_pos (Decidable.not_not.mp c_2)])), rfl⟩ d_Mo_isIn_15
    · refine lv_iconst (v := 1) hx hb d_Mo_isIn_10 (by decide +kernel) ?_
      refine lv_goto (tgt := 15) hx hb d_Mo_isIn_11 (by decide) ?_
      exact nz_retz C0 (by decide +kernel) (hP.sub (ws' := []) [] rfl) (hD.sub (ws' := []) [] (by decide) rfl) hS ⟨(by unfold nz_in; (try first | rw [if_pos c_1] | rw [if_neg c_1] | rw [if_pos (Int32.not_le.mp c_1)] | rw [if_neg (Int32.not_lt.mpr c_1)] | rw [if_pos (Decidable.not_not.mp c_1)]); (try first | rw [if_pos c_2] | rw [if_neg c_2] | rw [if_pos (Int32.not_le.mp c_2)] | rw [if_neg (Int32.not_lt.mpr c_2)] | rw [if_pos (Decidable.not_not.mp c_2)])), rfl⟩ d_Mo_isIn_15
set_option maxHeartbeats 4000000 in
set_option maxRecDepth 100000 in
theorem c_Mo_isPlace (l : Launch) (D : va_G) (cB cI cJ : ClassId) (m0_ : Nat) (p0 : Int32) (m0 : Nat) (m1 : Nat) (m11 : Nat) (m12 : Nat) (m13 : Nat) (m14 : Nat) (m15 : Nat) (m16 : Nat) (m17 : Nat) (m18 : Nat) (m19 : Nat) (m20 : Nat) (m21 : Nat) (m22 : Nat) (m23 : Nat) (m24 : Nat) (m25 : Nat) (m26 : Nat) (m27 : Nat) (m28 : Nat) (m29 : Nat) (m30 : Nat) (m31 : Nat) (m32 : Nat) (m33 : Nat) (m34 : Nat) (m35 : Nat) (m36 : Nat) (m37 : Nat) (m38 : Nat) (m41 : Nat) (m42 : Nat) (m43 : Nat) (m44 : Nat) (m47 : Nat) (m48 : Nat) (m49 : Nat) (m50 : Nat) (m51 : Nat) (m52 : Nat) (m53 : Nat) (m54 : Nat) : nz_Ci l D cB cI cJ nz_x0 y_Mo_isPlace b_Mo_isPlace 2 (some .boolean) { frames := 1, cells := 0, slots := 0, locals := 22 } [.ref m0_, .int p0] [(m0_, .inr (12, [.ref m0, .ref m1, .int 0, .int 0, .int 0, .int (-1), .int 0, .int 0, .int 0, .int 0, .long 0, .ref m11, .ref m12, .ref m13, .ref m14, .ref m15, .ref m16, .ref m17, .ref m18, .ref m19, .ref m20, .ref m21, .ref m22, .ref m23, .ref m24, .ref m25, .ref m26, .ref m27, .ref m28, .ref m29, .ref m30, .ref m31, .ref m32, .ref m33, .ref m34, .ref m35, .ref m36, .ref m37, .ref m38, .int 0, .int 0, .ref m41, .ref m42, .ref m43, .ref m44, .int 0, .int 0, .ref m47, .ref m48, .ref m49, .ref m50, .ref m51, .ref m52, .ref m53, .ref m54])), (m11, .inl (cI, 2, .inl (fun _ => 0)))] (fun r w => r = 0 ∧ w = [(m0_, .inr (12, [.ref m0, .ref m1, .int 0, .int 0, .int 0, .int (-1), .int 0, .int 0, .int 0, .int 0, .long 0, .ref m11, .ref m12, .ref m13, .ref m14, .ref m15, .ref m16, .ref m17, .ref m18, .ref m19, .ref m20, .ref m21, .ref m22, .ref m23, .ref m24, .ref m25, .ref m26, .ref m27, .ref m28, .ref m29, .ref m30, .ref m31, .ref m32, .ref m33, .ref m34, .ref m35, .ref m36, .ref m37, .ref m38, .int 0, .int 0, .ref m41, .ref m42, .ref m43, .ref m44, .int 0, .int 0, .ref m47, .ref m48, .ref m49, .ref m50, .ref m51, .ref m52, .ref m53, .ref m54])), (m11, .inl (cI, 2, .inl (fun _ => 0)))]) := by
  refine nz_Ci.mk (by decide) (Nat.le_of_ble_eq_true rfl) ?_
  intro p e s m below meth c A ls C0 hnm hP hD hS hA hX hl
  have C0 : nz_Cx p s m _ meth c b_Mo_isPlace 2 (some .boolean) R_Mo D cB cI cJ := C0
  obtain ⟨hx, hb, hr, hml, hown, hts, hlk, hK⟩ := id C0
  have hl : lv_has ls 2 [(0, .ref m0_), (1, .int p0)] := hl
  refine lv_iload_n hx hb d_Mo_isPlace_0 rfl (lv_at hl 1 rfl) ?_
  refine lv_iconst (v := 0) hx hb d_Mo_isPlace_1 (by decide +kernel) ?_
  refine lv_aload_n hx hb d_Mo_isPlace_2 rfl (lv_at hl 0 rfl) ?_
  refine va_get (D := D) (ci := 12) (v := .ref m11) (C := R_Mo) (T := F_Mo) (N := 55) hx hb hts i_Mo hown hK.1 hP 0 rfl rfl 11 (by decide) (hts _ k_1029) (fun _ h9 => h9) rfl d_Mo_isPlace_3 ?_
  refine lv_aload_n hx hb d_Mo_isPlace_6 rfl (lv_at hl 0 rfl) ?_
  refine va_get (D := D) (ci := 12) (v := .int 0) (C := R_Mo) (T := F_Mo) (N := 55) hx hb hts i_Mo hown hK.1 hP 0 rfl rfl 39 (by decide) (hts _ k_1057) (fun _ h9 => h9) rfl d_Mo_isPlace_7 ?_
  refine va_iald hx hb hK.1 hP 1 1 rfl rfl (nz_vin (by decide +kernel)) d_Mo_isPlace_10 ?_
  refine nz_ctopi (v := 0) rfl ?_
  refine lv_iconst (v := 1) hx hb d_Mo_isPlace_11 (by decide +kernel) ?_
  refine lv_isub hx hb d_Mo_isPlace_12 ?_
  refine nz_ctopi (v := (-1)) (by decide +kernel) ?_
  refine nz_calSi (As := [.int p0, .int 0, .int (-1)]) (rest := []) C0 (c_Mo_isIn_m1 l D cB cI cJ p0) g_Mo_305 rfl nz_xb0 (by decide) hl.1 hP hD hS hA [] [0, 1] rfl (wr := [(m0_, .inr (12, [.ref m0, .ref m1, .int 0, .int 0, .int 0, .int (-1), .int 0, .int 0, .int 0, .int 0, .long 0, .ref m11, .ref m12, .ref m13, .ref m14, .ref m15, .ref m16, .ref m17, .ref m18, .ref m19, .ref m20, .ref m21, .ref m22, .ref m23, .ref m24, .ref m25, .ref m26, .ref m27, .ref m28, .ref m29, .ref m30, .ref m31, .ref m32, .ref m33, .ref m34, .ref m35, .ref m36, .ref m37, .ref m38, .int 0, .int 0, .ref m41, .ref m42, .ref m43, .ref m44, .int 0, .int 0, .ref m47, .ref m48, .ref m49, .ref m50, .ref m51, .ref m52, .ref m53, .ref m54])), (m11, .inl (cI, 2, .inl (fun _ => 0)))]) rfl (by decide) (by decide) (by decide) (fun _ _ _ => trivial) rfl (by decide) d_Mo_isPlace_13 (by decide) (fun r_1 u H locs h_2 hP hD hS => ?_)
  obtain ⟨h_2_r, rfl⟩ := h_2
  have hP : va_P D nz_cl [(m0_, .inr (12, [.ref m0, .ref m1, .int 0, .int 0, .int 0, .int (-1), .int 0, .int 0, .int 0, .int 0, .long 0, .ref m11, .ref m12, .ref m13, .ref m14, .ref m15, .ref m16, .ref m17, .ref m18, .ref m19, .ref m20, .ref m21, .ref m22, .ref m23, .ref m24, .ref m25, .ref m26, .ref m27, .ref m28, .ref m29, .ref m30, .ref m31, .ref m32, .ref m33, .ref m34, .ref m35, .ref m36, .ref m37, .ref m38, .int 0, .int 0, .ref m41, .ref m42, .ref m43, .ref m44, .int 0, .int 0, .ref m47, .ref m48, .ref m49, .ref m50, .ref m51, .ref m52, .ref m53, .ref m54])), (m11, .inl (cI, 2, .inl (fun _ => 0)))] H := hP
  have hD : va_D A [(m0_, .inr (12, [.ref m0, .ref m1, .int 0, .int 0, .int 0, .int (-1), .int 0, .int 0, .int 0, .int 0, .long 0, .ref m11, .ref m12, .ref m13, .ref m14, .ref m15, .ref m16, .ref m17, .ref m18, .ref m19, .ref m20, .ref m21, .ref m22, .ref m23, .ref m24, .ref m25, .ref m26, .ref m27, .ref m28, .ref m29, .ref m30, .ref m31, .ref m32, .ref m33, .ref m34, .ref m35, .ref m36, .ref m37, .ref m38, .int 0, .int 0, .ref m41, .ref m42, .ref m43, .ref m44, .int 0, .int 0, .ref m47, .ref m48, .ref m49, .ref m50, .ref m51, .ref m52, .ref m53, .ref m54])), (m11, .inl (cI, 2, .inl (fun _ => 0)))] := hD
  subst h_2_r
  exact nz_retz C0 (by decide +kernel) (hP.sub (ws' := [(m0_, .inr (12, [.ref m0, .ref m1, .int 0, .int 0, .int 0, .int (-1), .int 0, .int 0, .int 0, .int 0, .long 0, .ref m11, .ref m12, .ref m13, .ref m14, .ref m15, .ref m16, .ref m17, .ref m18, .ref m19, .ref m20, .ref m21, .ref m22, .ref m23, .ref m24, .ref m25, .ref m26, .ref m27, .ref m28, .ref m29, .ref m30, .ref m31, .ref m32, .ref m33, .ref m34, .ref m35, .ref m36, .ref m37, .ref m38, .int 0, .int 0, .ref m41, .ref m42, .ref m43, .ref m44, .int 0, .int 0, .ref m47, .ref m48, .ref m49, .ref m50, .ref m51, .ref m52, .ref m53, .ref m54])), (m11, .inl (cI, 2, .inl (fun _ => 0)))]) [0, 1] rfl) (hD.sub (ws' := [(m0_, .inr (12, [.ref m0, .ref m1, .int 0, .int 0, .int 0, .int (-1), .int 0, .int 0, .int 0, .int 0, .long 0, .ref m11, .ref m12, .ref m13, .ref m14, .ref m15, .ref m16, .ref m17, .ref m18, .ref m19, .ref m20, .ref m21, .ref m22, .ref m23, .ref m24, .ref m25, .ref m26, .ref m27, .ref m28, .ref m29, .ref m30, .ref m31, .ref m32, .ref m33, .ref m34, .ref m35, .ref m36, .ref m37, .ref m38, .int 0, .int 0, .ref m41, .ref m42, .ref m43, .ref m44, .int 0, .int 0, .ref m47, .ref m48, .ref m49, .ref m50, .ref m51, .ref m52, .ref m53, .ref m54])), (m11, .inl (cI, 2, .inl (fun _ => 0)))]) [0, 1] (by decide) rfl) hS ⟨rfl, rfl⟩ d_Mo_isPlace_16
set_option maxHeartbeats 4000000 in
set_option maxRecDepth 100000 in
theorem c_Mo_isMeaning (l : Launch) (D : va_G) (cB cI cJ : ClassId) (m0_ : Nat) (p0 : Int32) (m0 : Nat) (m1 : Nat) (m11 : Nat) (m12 : Nat) (m13 : Nat) (m14 : Nat) (m15 : Nat) (m16 : Nat) (m17 : Nat) (m18 : Nat) (m19 : Nat) (m20 : Nat) (m21 : Nat) (m22 : Nat) (m23 : Nat) (m24 : Nat) (m25 : Nat) (m26 : Nat) (m27 : Nat) (m28 : Nat) (m29 : Nat) (m30 : Nat) (m31 : Nat) (m32 : Nat) (m33 : Nat) (m34 : Nat) (m35 : Nat) (m36 : Nat) (m37 : Nat) (m38 : Nat) (m41 : Nat) (m42 : Nat) (m43 : Nat) (m44 : Nat) (m47 : Nat) (m48 : Nat) (m49 : Nat) (m50 : Nat) (m51 : Nat) (m52 : Nat) (m53 : Nat) (m54 : Nat) : nz_Ci l D cB cI cJ nz_x0 y_Mo_isMeaning b_Mo_isMeaning 2 (some .boolean) { frames := 1, cells := 0, slots := 0, locals := 22 } [.ref m0_, .int p0] [(m0_, .inr (12, [.ref m0, .ref m1, .int 0, .int 0, .int 0, .int (-1), .int 0, .int 0, .int 0, .int 0, .long 0, .ref m11, .ref m12, .ref m13, .ref m14, .ref m15, .ref m16, .ref m17, .ref m18, .ref m19, .ref m20, .ref m21, .ref m22, .ref m23, .ref m24, .ref m25, .ref m26, .ref m27, .ref m28, .ref m29, .ref m30, .ref m31, .ref m32, .ref m33, .ref m34, .ref m35, .ref m36, .ref m37, .ref m38, .int 0, .int 0, .ref m41, .ref m42, .ref m43, .ref m44, .int 0, .int 0, .ref m47, .ref m48, .ref m49, .ref m50, .ref m51, .ref m52, .ref m53, .ref m54])), (m12, .inl (cI, 2, .inl (fun _ => 0)))] (fun r w => r = 0 ∧ w = [(m0_, .inr (12, [.ref m0, .ref m1, .int 0, .int 0, .int 0, .int (-1), .int 0, .int 0, .int 0, .int 0, .long 0, .ref m11, .ref m12, .ref m13, .ref m14, .ref m15, .ref m16, .ref m17, .ref m18, .ref m19, .ref m20, .ref m21, .ref m22, .ref m23, .ref m24, .ref m25, .ref m26, .ref m27, .ref m28, .ref m29, .ref m30, .ref m31, .ref m32, .ref m33, .ref m34, .ref m35, .ref m36, .ref m37, .ref m38, .int 0, .int 0, .ref m41, .ref m42, .ref m43, .ref m44, .int 0, .int 0, .ref m47, .ref m48, .ref m49, .ref m50, .ref m51, .ref m52, .ref m53, .ref m54])), (m12, .inl (cI, 2, .inl (fun _ => 0)))]) := by
  refine nz_Ci.mk (by decide) (Nat.le_of_ble_eq_true rfl) ?_
  intro p e s m below meth c A ls C0 hnm hP hD hS hA hX hl
  have C0 : nz_Cx p s m _ meth c b_Mo_isMeaning 2 (some .boolean) R_Mo D cB cI cJ := C0
  obtain ⟨hx, hb, hr, hml, hown, hts, hlk, hK⟩ := id C0
  have hl : lv_has ls 2 [(0, .ref m0_), (1, .int p0)] := hl
  refine lv_iload_n hx hb d_Mo_isMeaning_0 rfl (lv_at hl 1 rfl) ?_
  refine lv_iconst (v := 0) hx hb d_Mo_isMeaning_1 (by decide +kernel) ?_
  refine lv_aload_n hx hb d_Mo_isMeaning_2 rfl (lv_at hl 0 rfl) ?_
  refine va_get (D := D) (ci := 12) (v := .ref m12) (C := R_Mo) (T := F_Mo) (N := 55) hx hb hts i_Mo hown hK.1 hP 0 rfl rfl 12 (by decide) (hts _ k_1030) (fun _ h9 => h9) rfl d_Mo_isMeaning_3 ?_
  refine lv_aload_n hx hb d_Mo_isMeaning_6 rfl (lv_at hl 0 rfl) ?_
  refine va_get (D := D) (ci := 12) (v := .int 0) (C := R_Mo) (T := F_Mo) (N := 55) hx hb hts i_Mo hown hK.1 hP 0 rfl rfl 39 (by decide) (hts _ k_1057) (fun _ h9 => h9) rfl d_Mo_isMeaning_7 ?_
  refine va_iald hx hb hK.1 hP 1 1 rfl rfl (nz_vin (by decide +kernel)) d_Mo_isMeaning_10 ?_
  refine nz_ctopi (v := 0) rfl ?_
  refine lv_iconst (v := 1) hx hb d_Mo_isMeaning_11 (by decide +kernel) ?_
  refine lv_isub hx hb d_Mo_isMeaning_12 ?_
  refine nz_ctopi (v := (-1)) (by decide +kernel) ?_
  refine nz_calSi (As := [.int p0, .int 0, .int (-1)]) (rest := []) C0 (c_Mo_isIn_m1 l D cB cI cJ p0) g_Mo_305 rfl nz_xb0 (by decide) hl.1 hP hD hS hA [] [0, 1] rfl (wr := [(m0_, .inr (12, [.ref m0, .ref m1, .int 0, .int 0, .int 0, .int (-1), .int 0, .int 0, .int 0, .int 0, .long 0, .ref m11, .ref m12, .ref m13, .ref m14, .ref m15, .ref m16, .ref m17, .ref m18, .ref m19, .ref m20, .ref m21, .ref m22, .ref m23, .ref m24, .ref m25, .ref m26, .ref m27, .ref m28, .ref m29, .ref m30, .ref m31, .ref m32, .ref m33, .ref m34, .ref m35, .ref m36, .ref m37, .ref m38, .int 0, .int 0, .ref m41, .ref m42, .ref m43, .ref m44, .int 0, .int 0, .ref m47, .ref m48, .ref m49, .ref m50, .ref m51, .ref m52, .ref m53, .ref m54])), (m12, .inl (cI, 2, .inl (fun _ => 0)))]) rfl (by decide) (by decide) (by decide) (fun _ _ _ => trivial) rfl (by decide) d_Mo_isMeaning_13 (by decide) (fun r_1 u H locs h_2 hP hD hS => ?_)
  obtain ⟨h_2_r, rfl⟩ := h_2
  have hP : va_P D nz_cl [(m0_, .inr (12, [.ref m0, .ref m1, .int 0, .int 0, .int 0, .int (-1), .int 0, .int 0, .int 0, .int 0, .long 0, .ref m11, .ref m12, .ref m13, .ref m14, .ref m15, .ref m16, .ref m17, .ref m18, .ref m19, .ref m20, .ref m21, .ref m22, .ref m23, .ref m24, .ref m25, .ref m26, .ref m27, .ref m28, .ref m29, .ref m30, .ref m31, .ref m32, .ref m33, .ref m34, .ref m35, .ref m36, .ref m37, .ref m38, .int 0, .int 0, .ref m41, .ref m42, .ref m43, .ref m44, .int 0, .int 0, .ref m47, .ref m48, .ref m49, .ref m50, .ref m51, .ref m52, .ref m53, .ref m54])), (m12, .inl (cI, 2, .inl (fun _ => 0)))] H := hP
  have hD : va_D A [(m0_, .inr (12, [.ref m0, .ref m1, .int 0, .int 0, .int 0, .int (-1), .int 0, .int 0, .int 0, .int 0, .long 0, .ref m11, .ref m12, .ref m13, .ref m14, .ref m15, .ref m16, .ref m17, .ref m18, .ref m19, .ref m20, .ref m21, .ref m22, .ref m23, .ref m24, .ref m25, .ref m26, .ref m27, .ref m28, .ref m29, .ref m30, .ref m31, .ref m32, .ref m33, .ref m34, .ref m35, .ref m36, .ref m37, .ref m38, .int 0, .int 0, .ref m41, .ref m42, .ref m43, .ref m44, .int 0, .int 0, .ref m47, .ref m48, .ref m49, .ref m50, .ref m51, .ref m52, .ref m53, .ref m54])), (m12, .inl (cI, 2, .inl (fun _ => 0)))] := hD
  subst h_2_r
  exact nz_retz C0 (by decide +kernel) (hP.sub (ws' := [(m0_, .inr (12, [.ref m0, .ref m1, .int 0, .int 0, .int 0, .int (-1), .int 0, .int 0, .int 0, .int 0, .long 0, .ref m11, .ref m12, .ref m13, .ref m14, .ref m15, .ref m16, .ref m17, .ref m18, .ref m19, .ref m20, .ref m21, .ref m22, .ref m23, .ref m24, .ref m25, .ref m26, .ref m27, .ref m28, .ref m29, .ref m30, .ref m31, .ref m32, .ref m33, .ref m34, .ref m35, .ref m36, .ref m37, .ref m38, .int 0, .int 0, .ref m41, .ref m42, .ref m43, .ref m44, .int 0, .int 0, .ref m47, .ref m48, .ref m49, .ref m50, .ref m51, .ref m52, .ref m53, .ref m54])), (m12, .inl (cI, 2, .inl (fun _ => 0)))]) [0, 1] rfl) (hD.sub (ws' := [(m0_, .inr (12, [.ref m0, .ref m1, .int 0, .int 0, .int 0, .int (-1), .int 0, .int 0, .int 0, .int 0, .long 0, .ref m11, .ref m12, .ref m13, .ref m14, .ref m15, .ref m16, .ref m17, .ref m18, .ref m19, .ref m20, .ref m21, .ref m22, .ref m23, .ref m24, .ref m25, .ref m26, .ref m27, .ref m28, .ref m29, .ref m30, .ref m31, .ref m32, .ref m33, .ref m34, .ref m35, .ref m36, .ref m37, .ref m38, .int 0, .int 0, .ref m41, .ref m42, .ref m43, .ref m44, .int 0, .int 0, .ref m47, .ref m48, .ref m49, .ref m50, .ref m51, .ref m52, .ref m53, .ref m54])), (m12, .inl (cI, 2, .inl (fun _ => 0)))]) [0, 1] (by decide) rfl) hS ⟨rfl, rfl⟩ d_Mo_isMeaning_16
set_option maxHeartbeats 4000000 in
set_option maxRecDepth 100000 in
theorem c_Mo_isWordNo (l : Launch) (D : va_G) (cB cI cJ : ClassId) (m0_ : Nat) (p0 : Int32) (m0 : Nat) (m1 : Nat) (m11 : Nat) (m12 : Nat) (m13 : Nat) (m14 : Nat) (m15 : Nat) (m16 : Nat) (m17 : Nat) (m18 : Nat) (m19 : Nat) (m20 : Nat) (m21 : Nat) (m22 : Nat) (m23 : Nat) (m24 : Nat) (m25 : Nat) (m26 : Nat) (m27 : Nat) (m28 : Nat) (m29 : Nat) (m30 : Nat) (m31 : Nat) (m32 : Nat) (m33 : Nat) (m34 : Nat) (m35 : Nat) (m36 : Nat) (m37 : Nat) (m38 : Nat) (m41 : Nat) (m42 : Nat) (m43 : Nat) (m44 : Nat) (m47 : Nat) (m48 : Nat) (m49 : Nat) (m50 : Nat) (m51 : Nat) (m52 : Nat) (m53 : Nat) (m54 : Nat) : nz_Ci l D cB cI cJ nz_x0 y_Mo_isWordNo b_Mo_isWordNo 2 (some .boolean) { frames := 1, cells := 0, slots := 0, locals := 22 } [.ref m0_, .int p0] [(m0_, .inr (12, [.ref m0, .ref m1, .int 0, .int 0, .int 0, .int (-1), .int 0, .int 0, .int 0, .int 0, .long 0, .ref m11, .ref m12, .ref m13, .ref m14, .ref m15, .ref m16, .ref m17, .ref m18, .ref m19, .ref m20, .ref m21, .ref m22, .ref m23, .ref m24, .ref m25, .ref m26, .ref m27, .ref m28, .ref m29, .ref m30, .ref m31, .ref m32, .ref m33, .ref m34, .ref m35, .ref m36, .ref m37, .ref m38, .int 0, .int 0, .ref m41, .ref m42, .ref m43, .ref m44, .int 0, .int 0, .ref m47, .ref m48, .ref m49, .ref m50, .ref m51, .ref m52, .ref m53, .ref m54])), (m13, .inl (cI, 2, .inl (fun _ => 0)))] (fun r w => r = 0 ∧ w = [(m0_, .inr (12, [.ref m0, .ref m1, .int 0, .int 0, .int 0, .int (-1), .int 0, .int 0, .int 0, .int 0, .long 0, .ref m11, .ref m12, .ref m13, .ref m14, .ref m15, .ref m16, .ref m17, .ref m18, .ref m19, .ref m20, .ref m21, .ref m22, .ref m23, .ref m24, .ref m25, .ref m26, .ref m27, .ref m28, .ref m29, .ref m30, .ref m31, .ref m32, .ref m33, .ref m34, .ref m35, .ref m36, .ref m37, .ref m38, .int 0, .int 0, .ref m41, .ref m42, .ref m43, .ref m44, .int 0, .int 0, .ref m47, .ref m48, .ref m49, .ref m50, .ref m51, .ref m52, .ref m53, .ref m54])), (m13, .inl (cI, 2, .inl (fun _ => 0)))]) := by
  refine nz_Ci.mk (by decide) (Nat.le_of_ble_eq_true rfl) ?_
  intro p e s m below meth c A ls C0 hnm hP hD hS hA hX hl
  have C0 : nz_Cx p s m _ meth c b_Mo_isWordNo 2 (some .boolean) R_Mo D cB cI cJ := C0
  obtain ⟨hx, hb, hr, hml, hown, hts, hlk, hK⟩ := id C0
  have hl : lv_has ls 2 [(0, .ref m0_), (1, .int p0)] := hl
  refine lv_iload_n hx hb d_Mo_isWordNo_0 rfl (lv_at hl 1 rfl) ?_
  refine lv_iconst (v := 0) hx hb d_Mo_isWordNo_1 (by decide +kernel) ?_
  refine lv_aload_n hx hb d_Mo_isWordNo_2 rfl (lv_at hl 0 rfl) ?_
  refine va_get (D := D) (ci := 12) (v := .ref m13) (C := R_Mo) (T := F_Mo) (N := 55) hx hb hts i_Mo hown hK.1 hP 0 rfl rfl 13 (by decide) (hts _ k_1031) (fun _ h9 => h9) rfl d_Mo_isWordNo_3 ?_
  refine lv_aload_n hx hb d_Mo_isWordNo_6 rfl (lv_at hl 0 rfl) ?_
  refine va_get (D := D) (ci := 12) (v := .int 0) (C := R_Mo) (T := F_Mo) (N := 55) hx hb hts i_Mo hown hK.1 hP 0 rfl rfl 39 (by decide) (hts _ k_1057) (fun _ h9 => h9) rfl d_Mo_isWordNo_7 ?_
  refine va_iald hx hb hK.1 hP 1 1 rfl rfl (nz_vin (by decide +kernel)) d_Mo_isWordNo_10 ?_
  refine nz_ctopi (v := 0) rfl ?_
  refine lv_iconst (v := 1) hx hb d_Mo_isWordNo_11 (by decide +kernel) ?_
  refine lv_isub hx hb d_Mo_isWordNo_12 ?_
  refine nz_ctopi (v := (-1)) (by decide +kernel) ?_
  refine nz_calSi (As := [.int p0, .int 0, .int (-1)]) (rest := []) C0 (c_Mo_isIn_m1 l D cB cI cJ p0) g_Mo_305 rfl nz_xb0 (by decide) hl.1 hP hD hS hA [] [0, 1] rfl (wr := [(m0_, .inr (12, [.ref m0, .ref m1, .int 0, .int 0, .int 0, .int (-1), .int 0, .int 0, .int 0, .int 0, .long 0, .ref m11, .ref m12, .ref m13, .ref m14, .ref m15, .ref m16, .ref m17, .ref m18, .ref m19, .ref m20, .ref m21, .ref m22, .ref m23, .ref m24, .ref m25, .ref m26, .ref m27, .ref m28, .ref m29, .ref m30, .ref m31, .ref m32, .ref m33, .ref m34, .ref m35, .ref m36, .ref m37, .ref m38, .int 0, .int 0, .ref m41, .ref m42, .ref m43, .ref m44, .int 0, .int 0, .ref m47, .ref m48, .ref m49, .ref m50, .ref m51, .ref m52, .ref m53, .ref m54])), (m13, .inl (cI, 2, .inl (fun _ => 0)))]) rfl (by decide) (by decide) (by decide) (fun _ _ _ => trivial) rfl (by decide) d_Mo_isWordNo_13 (by decide) (fun r_1 u H locs h_2 hP hD hS => ?_)
  obtain ⟨h_2_r, rfl⟩ := h_2
  have hP : va_P D nz_cl [(m0_, .inr (12, [.ref m0, .ref m1, .int 0, .int 0, .int 0, .int (-1), .int 0, .int 0, .int 0, .int 0, .long 0, .ref m11, .ref m12, .ref m13, .ref m14, .ref m15, .ref m16, .ref m17, .ref m18, .ref m19, .ref m20, .ref m21, .ref m22, .ref m23, .ref m24, .ref m25, .ref m26, .ref m27, .ref m28, .ref m29, .ref m30, .ref m31, .ref m32, .ref m33, .ref m34, .ref m35, .ref m36, .ref m37, .ref m38, .int 0, .int 0, .ref m41, .ref m42, .ref m43, .ref m44, .int 0, .int 0, .ref m47, .ref m48, .ref m49, .ref m50, .ref m51, .ref m52, .ref m53, .ref m54])), (m13, .inl (cI, 2, .inl (fun _ => 0)))] H := hP
  have hD : va_D A [(m0_, .inr (12, [.ref m0, .ref m1, .int 0, .int 0, .int 0, .int (-1), .int 0, .int 0, .int 0, .int 0, .long 0, .ref m11, .ref m12, .ref m13, .ref m14, .ref m15, .ref m16, .ref m17, .ref m18, .ref m19, .ref m20, .ref m21, .ref m22, .ref m23, .ref m24, .ref m25, .ref m26, .ref m27, .ref m28, .ref m29, .ref m30, .ref m31, .ref m32, .ref m33, .ref m34, .ref m35, .ref m36, .ref m37, .ref m38, .int 0, .int 0, .ref m41, .ref m42, .ref m43, .ref m44, .int 0, .int 0, .ref m47, .ref m48, .ref m49, .ref m50, .ref m51, .ref m52, .ref m53, .ref m54])), (m13, .inl (cI, 2, .inl (fun _ => 0)))] := hD
  subst h_2_r
  exact nz_retz C0 (by decide +kernel) (hP.sub (ws' := [(m0_, .inr (12, [.ref m0, .ref m1, .int 0, .int 0, .int 0, .int (-1), .int 0, .int 0, .int 0, .int 0, .long 0, .ref m11, .ref m12, .ref m13, .ref m14, .ref m15, .ref m16, .ref m17, .ref m18, .ref m19, .ref m20, .ref m21, .ref m22, .ref m23, .ref m24, .ref m25, .ref m26, .ref m27, .ref m28, .ref m29, .ref m30, .ref m31, .ref m32, .ref m33, .ref m34, .ref m35, .ref m36, .ref m37, .ref m38, .int 0, .int 0, .ref m41, .ref m42, .ref m43, .ref m44, .int 0, .int 0, .ref m47, .ref m48, .ref m49, .ref m50, .ref m51, .ref m52, .ref m53, .ref m54])), (m13, .inl (cI, 2, .inl (fun _ => 0)))]) [0, 1] rfl) (hD.sub (ws' := [(m0_, .inr (12, [.ref m0, .ref m1, .int 0, .int 0, .int 0, .int (-1), .int 0, .int 0, .int 0, .int 0, .long 0, .ref m11, .ref m12, .ref m13, .ref m14, .ref m15, .ref m16, .ref m17, .ref m18, .ref m19, .ref m20, .ref m21, .ref m22, .ref m23, .ref m24, .ref m25, .ref m26, .ref m27, .ref m28, .ref m29, .ref m30, .ref m31, .ref m32, .ref m33, .ref m34, .ref m35, .ref m36, .ref m37, .ref m38, .int 0, .int 0, .ref m41, .ref m42, .ref m43, .ref m44, .int 0, .int 0, .ref m47, .ref m48, .ref m49, .ref m50, .ref m51, .ref m52, .ref m53, .ref m54])), (m13, .inl (cI, 2, .inl (fun _ => 0)))]) [0, 1] (by decide) rfl) hS ⟨rfl, rfl⟩ d_Mo_isWordNo_16
set_option maxHeartbeats 4000000 in
set_option maxRecDepth 100000 in
theorem c_Mo_isPerson (l : Launch) (D : va_G) (cB cI cJ : ClassId) (m0_ : Nat) (p0 : Int32) (m0 : Nat) (m1 : Nat) (m11 : Nat) (m12 : Nat) (m13 : Nat) (m14 : Nat) (m15 : Nat) (m16 : Nat) (m17 : Nat) (m18 : Nat) (m19 : Nat) (m20 : Nat) (m21 : Nat) (m22 : Nat) (m23 : Nat) (m24 : Nat) (m25 : Nat) (m26 : Nat) (m27 : Nat) (m28 : Nat) (m29 : Nat) (m30 : Nat) (m31 : Nat) (m32 : Nat) (m33 : Nat) (m34 : Nat) (m35 : Nat) (m36 : Nat) (m37 : Nat) (m38 : Nat) (m41 : Nat) (m42 : Nat) (m43 : Nat) (m44 : Nat) (m47 : Nat) (m48 : Nat) (m49 : Nat) (m50 : Nat) (m51 : Nat) (m52 : Nat) (m53 : Nat) (m54 : Nat) : nz_Ci l D cB cI cJ nz_x0 y_Mo_isPerson b_Mo_isPerson 2 (some .boolean) { frames := 1, cells := 0, slots := 0, locals := 22 } [.ref m0_, .int p0] [(m0_, .inr (12, [.ref m0, .ref m1, .int 0, .int 0, .int 0, .int (-1), .int 0, .int 0, .int 0, .int 0, .long 0, .ref m11, .ref m12, .ref m13, .ref m14, .ref m15, .ref m16, .ref m17, .ref m18, .ref m19, .ref m20, .ref m21, .ref m22, .ref m23, .ref m24, .ref m25, .ref m26, .ref m27, .ref m28, .ref m29, .ref m30, .ref m31, .ref m32, .ref m33, .ref m34, .ref m35, .ref m36, .ref m37, .ref m38, .int 0, .int 0, .ref m41, .ref m42, .ref m43, .ref m44, .int 0, .int 0, .ref m47, .ref m48, .ref m49, .ref m50, .ref m51, .ref m52, .ref m53, .ref m54])), (m15, .inl (cI, 2, .inl (fun _ => 0)))] (fun r w => r = 0 ∧ w = [(m0_, .inr (12, [.ref m0, .ref m1, .int 0, .int 0, .int 0, .int (-1), .int 0, .int 0, .int 0, .int 0, .long 0, .ref m11, .ref m12, .ref m13, .ref m14, .ref m15, .ref m16, .ref m17, .ref m18, .ref m19, .ref m20, .ref m21, .ref m22, .ref m23, .ref m24, .ref m25, .ref m26, .ref m27, .ref m28, .ref m29, .ref m30, .ref m31, .ref m32, .ref m33, .ref m34, .ref m35, .ref m36, .ref m37, .ref m38, .int 0, .int 0, .ref m41, .ref m42, .ref m43, .ref m44, .int 0, .int 0, .ref m47, .ref m48, .ref m49, .ref m50, .ref m51, .ref m52, .ref m53, .ref m54])), (m15, .inl (cI, 2, .inl (fun _ => 0)))]) := by
  refine nz_Ci.mk (by decide) (Nat.le_of_ble_eq_true rfl) ?_
  intro p e s m below meth c A ls C0 hnm hP hD hS hA hX hl
  have C0 : nz_Cx p s m _ meth c b_Mo_isPerson 2 (some .boolean) R_Mo D cB cI cJ := C0
  obtain ⟨hx, hb, hr, hml, hown, hts, hlk, hK⟩ := id C0
  have hl : lv_has ls 2 [(0, .ref m0_), (1, .int p0)] := hl
  refine lv_iload_n hx hb d_Mo_isPerson_0 rfl (lv_at hl 1 rfl) ?_
  refine lv_iconst (v := 0) hx hb d_Mo_isPerson_1 (by decide +kernel) ?_
  refine lv_aload_n hx hb d_Mo_isPerson_2 rfl (lv_at hl 0 rfl) ?_
  refine va_get (D := D) (ci := 12) (v := .ref m15) (C := R_Mo) (T := F_Mo) (N := 55) hx hb hts i_Mo hown hK.1 hP 0 rfl rfl 15 (by decide) (hts _ k_1033) (fun _ h9 => h9) rfl d_Mo_isPerson_3 ?_
  refine lv_aload_n hx hb d_Mo_isPerson_6 rfl (lv_at hl 0 rfl) ?_
  refine va_get (D := D) (ci := 12) (v := .int 0) (C := R_Mo) (T := F_Mo) (N := 55) hx hb hts i_Mo hown hK.1 hP 0 rfl rfl 39 (by decide) (hts _ k_1057) (fun _ h9 => h9) rfl d_Mo_isPerson_7 ?_
  refine va_iald hx hb hK.1 hP 1 1 rfl rfl (nz_vin (by decide +kernel)) d_Mo_isPerson_10 ?_
  refine nz_ctopi (v := 0) rfl ?_
  refine lv_iconst (v := 1) hx hb d_Mo_isPerson_11 (by decide +kernel) ?_
  refine lv_isub hx hb d_Mo_isPerson_12 ?_
  refine nz_ctopi (v := (-1)) (by decide +kernel) ?_
  refine nz_calSi (As := [.int p0, .int 0, .int (-1)]) (rest := []) C0 (c_Mo_isIn_m1 l D cB cI cJ p0) g_Mo_305 rfl nz_xb0 (by decide) hl.1 hP hD hS hA [] [0, 1] rfl (wr := [(m0_, .inr (12, [.ref m0, .ref m1, .int 0, .int 0, .int 0, .int (-1), .int 0, .int 0, .int 0, .int 0, .long 0, .ref m11, .ref m12, .ref m13, .ref m14, .ref m15, .ref m16, .ref m17, .ref m18, .ref m19, .ref m20, .ref m21, .ref m22, .ref m23, .ref m24, .ref m25, .ref m26, .ref m27, .ref m28, .ref m29, .ref m30, .ref m31, .ref m32, .ref m33, .ref m34, .ref m35, .ref m36, .ref m37, .ref m38, .int 0, .int 0, .ref m41, .ref m42, .ref m43, .ref m44, .int 0, .int 0, .ref m47, .ref m48, .ref m49, .ref m50, .ref m51, .ref m52, .ref m53, .ref m54])), (m15, .inl (cI, 2, .inl (fun _ => 0)))]) rfl (by decide) (by decide) (by decide) (fun _ _ _ => trivial) rfl (by decide) d_Mo_isPerson_13 (by decide) (fun r_1 u H locs h_2 hP hD hS => ?_)
  obtain ⟨h_2_r, rfl⟩ := h_2
  have hP : va_P D nz_cl [(m0_, .inr (12, [.ref m0, .ref m1, .int 0, .int 0, .int 0, .int (-1), .int 0, .int 0, .int 0, .int 0, .long 0, .ref m11, .ref m12, .ref m13, .ref m14, .ref m15, .ref m16, .ref m17, .ref m18, .ref m19, .ref m20, .ref m21, .ref m22, .ref m23, .ref m24, .ref m25, .ref m26, .ref m27, .ref m28, .ref m29, .ref m30, .ref m31, .ref m32, .ref m33, .ref m34, .ref m35, .ref m36, .ref m37, .ref m38, .int 0, .int 0, .ref m41, .ref m42, .ref m43, .ref m44, .int 0, .int 0, .ref m47, .ref m48, .ref m49, .ref m50, .ref m51, .ref m52, .ref m53, .ref m54])), (m15, .inl (cI, 2, .inl (fun _ => 0)))] H := hP
  have hD : va_D A [(m0_, .inr (12, [.ref m0, .ref m1, .int 0, .int 0, .int 0, .int (-1), .int 0, .int 0, .int 0, .int 0, .long 0, .ref m11, .ref m12, .ref m13, .ref m14, .ref m15, .ref m16, .ref m17, .ref m18, .ref m19, .ref m20, .ref m21, .ref m22, .ref m23, .ref m24, .ref m25, .ref m26, .ref m27, .ref m28, .ref m29, .ref m30, .ref m31, .ref m32, .ref m33, .ref m34, .ref m35, .ref m36, .ref m37, .ref m38, .int 0, .int 0, .ref m41, .ref m42, .ref m43, .ref m44, .int 0, .int 0, .ref m47, .ref m48, .ref m49, .ref m50, .ref m51, .ref m52, .ref m53, .ref m54])), (m15, .inl (cI, 2, .inl (fun _ => 0)))] := hD
  subst h_2_r
  exact nz_retz C0 (by decide +kernel) (hP.sub (ws' := [(m0_, .inr (12, [.ref m0, .ref m1, .int 0, .int 0, .int 0, .int (-1), .int 0, .int 0, .int 0, .int 0, .long 0, .ref m11, .ref m12, .ref m13, .ref m14, .ref m15, .ref m16, .ref m17, .ref m18, .ref m19, .ref m20, .ref m21, .ref m22, .ref m23, .ref m24, .ref m25, .ref m26, .ref m27, .ref m28, .ref m29, .ref m30, .ref m31, .ref m32, .ref m33, .ref m34, .ref m35, .ref m36, .ref m37, .ref m38, .int 0, .int 0, .ref m41, .ref m42, .ref m43, .ref m44, .int 0, .int 0, .ref m47, .ref m48, .ref m49, .ref m50, .ref m51, .ref m52, .ref m53, .ref m54])), (m15, .inl (cI, 2, .inl (fun _ => 0)))]) [0, 1] rfl) (hD.sub (ws' := [(m0_, .inr (12, [.ref m0, .ref m1, .int 0, .int 0, .int 0, .int (-1), .int 0, .int 0, .int 0, .int 0, .long 0, .ref m11, .ref m12, .ref m13, .ref m14, .ref m15, .ref m16, .ref m17, .ref m18, .ref m19, .ref m20, .ref m21, .ref m22, .ref m23, .ref m24, .ref m25, .ref m26, .ref m27, .ref m28, .ref m29, .ref m30, .ref m31, .ref m32, .ref m33, .ref m34, .ref m35, .ref m36, .ref m37, .ref m38, .int 0, .int 0, .ref m41, .ref m42, .ref m43, .ref m44, .int 0, .int 0, .ref m47, .ref m48, .ref m49, .ref m50, .ref m51, .ref m52, .ref m53, .ref m54])), (m15, .inl (cI, 2, .inl (fun _ => 0)))]) [0, 1] (by decide) rfl) hS ⟨rfl, rfl⟩ d_Mo_isPerson_16
set_option maxHeartbeats 4000000 in
set_option maxRecDepth 100000 in
theorem c_Mo_speak (l : Launch) (D : va_G) (cB cI cJ : ClassId) (m0_ : Nat) (p0 : Int32) (p1 : Int32) (p2 : Int32) (p3 : Int32) (m0 : Nat) (m1 : Nat) (m11 : Nat) (m12 : Nat) (m13 : Nat) (m14 : Nat) (m15 : Nat) (m16 : Nat) (m17 : Nat) (m18 : Nat) (m19 : Nat) (m20 : Nat) (m21 : Nat) (m22 : Nat) (m23 : Nat) (m24 : Nat) (m25 : Nat) (m26 : Nat) (m27 : Nat) (m28 : Nat) (m29 : Nat) (m30 : Nat) (m31 : Nat) (m32 : Nat) (m33 : Nat) (m34 : Nat) (m35 : Nat) (m36 : Nat) (m37 : Nat) (m38 : Nat) (m41 : Nat) (m42 : Nat) (m43 : Nat) (m44 : Nat) (m47 : Nat) (m48 : Nat) (m49 : Nat) (m50 : Nat) (m51 : Nat) (m52 : Nat) (m53 : Nat) (m54 : Nat) : nz_Ci l D cB cI cJ nz_x0 y_Mo_speak b_Mo_speak 5 (some .boolean) { frames := 2, cells := 0, slots := 0, locals := 43 } [.ref m0_, .int p0, .int p1, .int p2, .int p3] [(m0_, .inr (12, [.ref m0, .ref m1, .int 0, .int 0, .int 0, .int (-1), .int 0, .int 0, .int 0, .int 0, .long 0, .ref m11, .ref m12, .ref m13, .ref m14, .ref m15, .ref m16, .ref m17, .ref m18, .ref m19, .ref m20, .ref m21, .ref m22, .ref m23, .ref m24, .ref m25, .ref m26, .ref m27, .ref m28, .ref m29, .ref m30, .ref m31, .ref m32, .ref m33, .ref m34, .ref m35, .ref m36, .ref m37, .ref m38, .int 0, .int 0, .ref m41, .ref m42, .ref m43, .ref m44, .int 0, .int 0, .ref m47, .ref m48, .ref m49, .ref m50, .ref m51, .ref m52, .ref m53, .ref m54])), (m15, .inl (cI, 2, .inl (fun _ => 0)))] (fun r w => r = 0 ∧ w = [(m0_, .inr (12, [.ref m0, .ref m1, .int 0, .int 0, .int 0, .int (-1), .int 0, .int 0, .int 0, .int 0, .long 0, .ref m11, .ref m12, .ref m13, .ref m14, .ref m15, .ref m16, .ref m17, .ref m18, .ref m19, .ref m20, .ref m21, .ref m22, .ref m23, .ref m24, .ref m25, .ref m26, .ref m27, .ref m28, .ref m29, .ref m30, .ref m31, .ref m32, .ref m33, .ref m34, .ref m35, .ref m36, .ref m37, .ref m38, .int 0, .int 0, .ref m41, .ref m42, .ref m43, .ref m44, .int 0, .int 0, .ref m47, .ref m48, .ref m49, .ref m50, .ref m51, .ref m52, .ref m53, .ref m54])), (m15, .inl (cI, 2, .inl (fun _ => 0)))]) := by
  refine nz_Ci.mk (by decide) (Nat.le_of_ble_eq_true rfl) ?_
  intro p e s m below meth c A ls C0 hnm hP hD hS hA hX hl
  have C0 : nz_Cx p s m _ meth c b_Mo_speak 5 (some .boolean) R_Mo D cB cI cJ := C0
  obtain ⟨hx, hb, hr, hml, hown, hts, hlk, hK⟩ := id C0
  have hl : lv_has ls 5 [(0, .ref m0_), (1, .int p0), (2, .int p1), (3, .int p2), (4, .int p3)] := hl
  refine lv_aload_n hx hb d_Mo_speak_0 rfl (lv_at hl 0 rfl) ?_
  refine lv_iload_n hx hb d_Mo_speak_1 rfl (lv_at hl 1 rfl) ?_
  refine nz_calVi (As := [.int p0]) (rest := []) C0 (c_Mo_isPerson l D cB cI cJ m0_ p0 m0 m1 m11 m12 m13 m14 m15 m16 m17 m18 m19 m20 m21 m22 m23 m24 m25 m26 m27 m28 m29 m30 m31 m32 m33 m34 m35 m36 m37 m38 m41 m42 m43 m44 m47 m48 m49 m50 m51 m52 m53 m54) g_Mo_309 rfl nz_xb0 (by decide) hl.1 hP hD hS hA [0, 1] [] rfl (wr := []) rfl (by decide) (by decide) (by decide) rfl rfl (fun _ _ _ => trivial) rfl (by decide) d_Mo_speak_2 (by decide) (fun r_1 u H locs h_2 hP hD hS => ?_)
  obtain ⟨h_2_r, rfl⟩ := h_2
  have hP : va_P D nz_cl [(m0_, .inr (12, [.ref m0, .ref m1, .int 0, .int 0, .int 0, .int (-1), .int 0, .int 0, .int 0, .int 0, .long 0, .ref m11, .ref m12, .ref m13, .ref m14, .ref m15, .ref m16, .ref m17, .ref m18, .ref m19, .ref m20, .ref m21, .ref m22, .ref m23, .ref m24, .ref m25, .ref m26, .ref m27, .ref m28, .ref m29, .ref m30, .ref m31, .ref m32, .ref m33, .ref m34, .ref m35, .ref m36, .ref m37, .ref m38, .int 0, .int 0, .ref m41, .ref m42, .ref m43, .ref m44, .int 0, .int 0, .ref m47, .ref m48, .ref m49, .ref m50, .ref m51, .ref m52, .ref m53, .ref m54])), (m15, .inl (cI, 2, .inl (fun _ => 0)))] H := hP
  have hD : va_D A [(m0_, .inr (12, [.ref m0, .ref m1, .int 0, .int 0, .int 0, .int (-1), .int 0, .int 0, .int 0, .int 0, .long 0, .ref m11, .ref m12, .ref m13, .ref m14, .ref m15, .ref m16, .ref m17, .ref m18, .ref m19, .ref m20, .ref m21, .ref m22, .ref m23, .ref m24, .ref m25, .ref m26, .ref m27, .ref m28, .ref m29, .ref m30, .ref m31, .ref m32, .ref m33, .ref m34, .ref m35, .ref m36, .ref m37, .ref m38, .int 0, .int 0, .ref m41, .ref m42, .ref m43, .ref m44, .int 0, .int 0, .ref m47, .ref m48, .ref m49, .ref m50, .ref m51, .ref m52, .ref m53, .ref m54])), (m15, .inl (cI, 2, .inl (fun _ => 0)))] := hD
  subst h_2_r
  refine lv_if_eq (tgt := 28) hx hb d_Mo_speak_5 (by decide) (fun c_3 => ?_) (fun c_3 => absurd (by decide +kernel) c_3)
  refine lv_iconst (v := 0) hx hb d_Mo_speak_28 (by decide +kernel) ?_
  exact nz_retz C0 (by decide +kernel) (hP.sub (ws' := [(m0_, .inr (12, [.ref m0, .ref m1, .int 0, .int 0, .int 0, .int (-1), .int 0, .int 0, .int 0, .int 0, .long 0, .ref m11, .ref m12, .ref m13, .ref m14, .ref m15, .ref m16, .ref m17, .ref m18, .ref m19, .ref m20, .ref m21, .ref m22, .ref m23, .ref m24, .ref m25, .ref m26, .ref m27, .ref m28, .ref m29, .ref m30, .ref m31, .ref m32, .ref m33, .ref m34, .ref m35, .ref m36, .ref m37, .ref m38, .int 0, .int 0, .ref m41, .ref m42, .ref m43, .ref m44, .int 0, .int 0, .ref m47, .ref m48, .ref m49, .ref m50, .ref m51, .ref m52, .ref m53, .ref m54])), (m15, .inl (cI, 2, .inl (fun _ => 0)))]) [0, 1] rfl) (hD.sub (ws' := [(m0_, .inr (12, [.ref m0, .ref m1, .int 0, .int 0, .int 0, .int (-1), .int 0, .int 0, .int 0, .int 0, .long 0, .ref m11, .ref m12, .ref m13, .ref m14, .ref m15, .ref m16, .ref m17, .ref m18, .ref m19, .ref m20, .ref m21, .ref m22, .ref m23, .ref m24, .ref m25, .ref m26, .ref m27, .ref m28, .ref m29, .ref m30, .ref m31, .ref m32, .ref m33, .ref m34, .ref m35, .ref m36, .ref m37, .ref m38, .int 0, .int 0, .ref m41, .ref m42, .ref m43, .ref m44, .int 0, .int 0, .ref m47, .ref m48, .ref m49, .ref m50, .ref m51, .ref m52, .ref m53, .ref m54])), (m15, .inl (cI, 2, .inl (fun _ => 0)))]) [0, 1] (by decide) rfl) hS ⟨rfl, rfl⟩ d_Mo_speak_29
set_option maxHeartbeats 4000000 in
set_option maxRecDepth 100000 in
theorem c_Mo_die (l : Launch) (D : va_G) (cB cI cJ : ClassId) (m0_ : Nat) (p0 : Int32) (p1 : Int32) (m0 : Nat) (m1 : Nat) (m11 : Nat) (m12 : Nat) (m13 : Nat) (m14 : Nat) (m15 : Nat) (m16 : Nat) (m17 : Nat) (m18 : Nat) (m19 : Nat) (m20 : Nat) (m21 : Nat) (m22 : Nat) (m23 : Nat) (m24 : Nat) (m25 : Nat) (m26 : Nat) (m27 : Nat) (m28 : Nat) (m29 : Nat) (m30 : Nat) (m31 : Nat) (m32 : Nat) (m33 : Nat) (m34 : Nat) (m35 : Nat) (m36 : Nat) (m37 : Nat) (m38 : Nat) (m41 : Nat) (m42 : Nat) (m43 : Nat) (m44 : Nat) (m47 : Nat) (m48 : Nat) (m49 : Nat) (m50 : Nat) (m51 : Nat) (m52 : Nat) (m53 : Nat) (m54 : Nat) : nz_Ci l D cB cI cJ nz_x0 y_Mo_die b_Mo_die 3 (some .int) { frames := 2, cells := 0, slots := 0, locals := 43 } [.ref m0_, .int p0, .int p1] [(m0_, .inr (12, [.ref m0, .ref m1, .int 0, .int 0, .int 0, .int (-1), .int 0, .int 0, .int 0, .int 0, .long 0, .ref m11, .ref m12, .ref m13, .ref m14, .ref m15, .ref m16, .ref m17, .ref m18, .ref m19, .ref m20, .ref m21, .ref m22, .ref m23, .ref m24, .ref m25, .ref m26, .ref m27, .ref m28, .ref m29, .ref m30, .ref m31, .ref m32, .ref m33, .ref m34, .ref m35, .ref m36, .ref m37, .ref m38, .int 0, .int 0, .ref m41, .ref m42, .ref m43, .ref m44, .int 0, .int 0, .ref m47, .ref m48, .ref m49, .ref m50, .ref m51, .ref m52, .ref m53, .ref m54])), (m15, .inl (cI, 2, .inl (fun _ => 0)))] (fun r w => r = (-1) ∧ w = [(m0_, .inr (12, [.ref m0, .ref m1, .int 0, .int 0, .int 0, .int (-1), .int 0, .int 0, .int 0, .int 0, .long 0, .ref m11, .ref m12, .ref m13, .ref m14, .ref m15, .ref m16, .ref m17, .ref m18, .ref m19, .ref m20, .ref m21, .ref m22, .ref m23, .ref m24, .ref m25, .ref m26, .ref m27, .ref m28, .ref m29, .ref m30, .ref m31, .ref m32, .ref m33, .ref m34, .ref m35, .ref m36, .ref m37, .ref m38, .int 0, .int 0, .ref m41, .ref m42, .ref m43, .ref m44, .int 0, .int 0, .ref m47, .ref m48, .ref m49, .ref m50, .ref m51, .ref m52, .ref m53, .ref m54])), (m15, .inl (cI, 2, .inl (fun _ => 0)))]) := by
  refine nz_Ci.mk (by decide) (Nat.le_of_ble_eq_true rfl) ?_
  intro p e s m below meth c A ls C0 hnm hP hD hS hA hX hl
  have C0 : nz_Cx p s m _ meth c b_Mo_die 3 (some .int) R_Mo D cB cI cJ := C0
  obtain ⟨hx, hb, hr, hml, hown, hts, hlk, hK⟩ := id C0
  have hl : lv_has ls 3 [(0, .ref m0_), (1, .int p0), (2, .int p1)] := hl
  refine lv_aload_n hx hb d_Mo_die_0 rfl (lv_at hl 0 rfl) ?_
  refine lv_iload_n hx hb d_Mo_die_1 rfl (lv_at hl 1 rfl) ?_
  refine nz_calVi (As := [.int p0]) (rest := []) C0 (c_Mo_isPerson l D cB cI cJ m0_ p0 m0 m1 m11 m12 m13 m14 m15 m16 m17 m18 m19 m20 m21 m22 m23 m24 m25 m26 m27 m28 m29 m30 m31 m32 m33 m34 m35 m36 m37 m38 m41 m42 m43 m44 m47 m48 m49 m50 m51 m52 m53 m54) g_Mo_309 rfl nz_xb0 (by decide) hl.1 hP hD hS hA [0, 1] [] rfl (wr := []) rfl (by decide) (by decide) (by decide) rfl rfl (fun _ _ _ => trivial) rfl (by decide) d_Mo_die_2 (by decide) (fun r_1 u H locs h_2 hP hD hS => ?_)
  obtain ⟨h_2_r, rfl⟩ := h_2
  have hP : va_P D nz_cl [(m0_, .inr (12, [.ref m0, .ref m1, .int 0, .int 0, .int 0, .int (-1), .int 0, .int 0, .int 0, .int 0, .long 0, .ref m11, .ref m12, .ref m13, .ref m14, .ref m15, .ref m16, .ref m17, .ref m18, .ref m19, .ref m20, .ref m21, .ref m22, .ref m23, .ref m24, .ref m25, .ref m26, .ref m27, .ref m28, .ref m29, .ref m30, .ref m31, .ref m32, .ref m33, .ref m34, .ref m35, .ref m36, .ref m37, .ref m38, .int 0, .int 0, .ref m41, .ref m42, .ref m43, .ref m44, .int 0, .int 0, .ref m47, .ref m48, .ref m49, .ref m50, .ref m51, .ref m52, .ref m53, .ref m54])), (m15, .inl (cI, 2, .inl (fun _ => 0)))] H := hP
  have hD : va_D A [(m0_, .inr (12, [.ref m0, .ref m1, .int 0, .int 0, .int 0, .int (-1), .int 0, .int 0, .int 0, .int 0, .long 0, .ref m11, .ref m12, .ref m13, .ref m14, .ref m15, .ref m16, .ref m17, .ref m18, .ref m19, .ref m20, .ref m21, .ref m22, .ref m23, .ref m24, .ref m25, .ref m26, .ref m27, .ref m28, .ref m29, .ref m30, .ref m31, .ref m32, .ref m33, .ref m34, .ref m35, .ref m36, .ref m37, .ref m38, .int 0, .int 0, .ref m41, .ref m42, .ref m43, .ref m44, .int 0, .int 0, .ref m47, .ref m48, .ref m49, .ref m50, .ref m51, .ref m52, .ref m53, .ref m54])), (m15, .inl (cI, 2, .inl (fun _ => 0)))] := hD
  subst h_2_r
  refine lv_if_eq (tgt := 33) hx hb d_Mo_die_5 (by decide) (fun c_3 => ?_) (fun c_3 => absurd (by decide +kernel) c_3)
  refine lv_iconst (v := (-1)) hx hb d_Mo_die_33 (by decide +kernel) ?_
  exact nz_reti C0 (hP.sub (ws' := [(m0_, .inr (12, [.ref m0, .ref m1, .int 0, .int 0, .int 0, .int (-1), .int 0, .int 0, .int 0, .int 0, .long 0, .ref m11, .ref m12, .ref m13, .ref m14, .ref m15, .ref m16, .ref m17, .ref m18, .ref m19, .ref m20, .ref m21, .ref m22, .ref m23, .ref m24, .ref m25, .ref m26, .ref m27, .ref m28, .ref m29, .ref m30, .ref m31, .ref m32, .ref m33, .ref m34, .ref m35, .ref m36, .ref m37, .ref m38, .int 0, .int 0, .ref m41, .ref m42, .ref m43, .ref m44, .int 0, .int 0, .ref m47, .ref m48, .ref m49, .ref m50, .ref m51, .ref m52, .ref m53, .ref m54])), (m15, .inl (cI, 2, .inl (fun _ => 0)))]) [0, 1] rfl) (hD.sub (ws' := [(m0_, .inr (12, [.ref m0, .ref m1, .int 0, .int 0, .int 0, .int (-1), .int 0, .int 0, .int 0, .int 0, .long 0, .ref m11, .ref m12, .ref m13, .ref m14, .ref m15, .ref m16, .ref m17, .ref m18, .ref m19, .ref m20, .ref m21, .ref m22, .ref m23, .ref m24, .ref m25, .ref m26, .ref m27, .ref m28, .ref m29, .ref m30, .ref m31, .ref m32, .ref m33, .ref m34, .ref m35, .ref m36, .ref m37, .ref m38, .int 0, .int 0, .ref m41, .ref m42, .ref m43, .ref m44, .int 0, .int 0, .ref m47, .ref m48, .ref m49, .ref m50, .ref m51, .ref m52, .ref m53, .ref m54])), (m15, .inl (cI, 2, .inl (fun _ => 0)))]) [0, 1] (by decide) rfl) hS ⟨rfl, rfl⟩ d_Mo_die_34
set_option maxHeartbeats 4000000 in
set_option maxRecDepth 100000 in
theorem c_Mo_alive (l : Launch) (D : va_G) (cB cI cJ : ClassId) (m0_ : Nat) (p0 : Int32) (p1 : Int32) (p2 : Int32) (m0 : Nat) (m1 : Nat) (m11 : Nat) (m12 : Nat) (m13 : Nat) (m14 : Nat) (m15 : Nat) (m16 : Nat) (m17 : Nat) (m18 : Nat) (m19 : Nat) (m20 : Nat) (m21 : Nat) (m22 : Nat) (m23 : Nat) (m24 : Nat) (m25 : Nat) (m26 : Nat) (m27 : Nat) (m28 : Nat) (m29 : Nat) (m30 : Nat) (m31 : Nat) (m32 : Nat) (m33 : Nat) (m34 : Nat) (m35 : Nat) (m36 : Nat) (m37 : Nat) (m38 : Nat) (m41 : Nat) (m42 : Nat) (m43 : Nat) (m44 : Nat) (m47 : Nat) (m48 : Nat) (m49 : Nat) (m50 : Nat) (m51 : Nat) (m52 : Nat) (m53 : Nat) (m54 : Nat) : nz_Ci l D cB cI cJ nz_x0 y_Mo_alive b_Mo_alive 4 (some .int) { frames := 2, cells := 0, slots := 0, locals := 43 } [.ref m0_, .int p0, .int p1, .int p2] [(m0_, .inr (12, [.ref m0, .ref m1, .int 0, .int 0, .int 0, .int (-1), .int 0, .int 0, .int 0, .int 0, .long 0, .ref m11, .ref m12, .ref m13, .ref m14, .ref m15, .ref m16, .ref m17, .ref m18, .ref m19, .ref m20, .ref m21, .ref m22, .ref m23, .ref m24, .ref m25, .ref m26, .ref m27, .ref m28, .ref m29, .ref m30, .ref m31, .ref m32, .ref m33, .ref m34, .ref m35, .ref m36, .ref m37, .ref m38, .int 0, .int 0, .ref m41, .ref m42, .ref m43, .ref m44, .int 0, .int 0, .ref m47, .ref m48, .ref m49, .ref m50, .ref m51, .ref m52, .ref m53, .ref m54])), (m15, .inl (cI, 2, .inl (fun _ => 0)))] (fun r w => r = (-1) ∧ w = [(m0_, .inr (12, [.ref m0, .ref m1, .int 0, .int 0, .int 0, .int (-1), .int 0, .int 0, .int 0, .int 0, .long 0, .ref m11, .ref m12, .ref m13, .ref m14, .ref m15, .ref m16, .ref m17, .ref m18, .ref m19, .ref m20, .ref m21, .ref m22, .ref m23, .ref m24, .ref m25, .ref m26, .ref m27, .ref m28, .ref m29, .ref m30, .ref m31, .ref m32, .ref m33, .ref m34, .ref m35, .ref m36, .ref m37, .ref m38, .int 0, .int 0, .ref m41, .ref m42, .ref m43, .ref m44, .int 0, .int 0, .ref m47, .ref m48, .ref m49, .ref m50, .ref m51, .ref m52, .ref m53, .ref m54])), (m15, .inl (cI, 2, .inl (fun _ => 0)))]) := by
  refine nz_Ci.mk (by decide) (Nat.le_of_ble_eq_true rfl) ?_
  intro p e s m below meth c A ls C0 hnm hP hD hS hA hX hl
  have C0 : nz_Cx p s m _ meth c b_Mo_alive 4 (some .int) R_Mo D cB cI cJ := C0
  obtain ⟨hx, hb, hr, hml, hown, hts, hlk, hK⟩ := id C0
  have hl : lv_has ls 4 [(0, .ref m0_), (1, .int p0), (2, .int p1), (3, .int p2)] := hl
  refine lv_aload_n hx hb d_Mo_alive_0 rfl (lv_at hl 0 rfl) ?_
  refine lv_iload_n hx hb d_Mo_alive_1 rfl (lv_at hl 1 rfl) ?_
  refine nz_calVi (As := [.int p0]) (rest := []) C0 (c_Mo_isPerson l D cB cI cJ m0_ p0 m0 m1 m11 m12 m13 m14 m15 m16 m17 m18 m19 m20 m21 m22 m23 m24 m25 m26 m27 m28 m29 m30 m31 m32 m33 m34 m35 m36 m37 m38 m41 m42 m43 m44 m47 m48 m49 m50 m51 m52 m53 m54) g_Mo_309 rfl nz_xb0 (by decide) hl.1 hP hD hS hA [0, 1] [] rfl (wr := []) rfl (by decide) (by decide) (by decide) rfl rfl (fun _ _ _ => trivial) rfl (by decide) d_Mo_alive_2 (by decide) (fun r_1 u H locs h_2 hP hD hS => ?_)
  obtain ⟨h_2_r, rfl⟩ := h_2
  have hP : va_P D nz_cl [(m0_, .inr (12, [.ref m0, .ref m1, .int 0, .int 0, .int 0, .int (-1), .int 0, .int 0, .int 0, .int 0, .long 0, .ref m11, .ref m12, .ref m13, .ref m14, .ref m15, .ref m16, .ref m17, .ref m18, .ref m19, .ref m20, .ref m21, .ref m22, .ref m23, .ref m24, .ref m25, .ref m26, .ref m27, .ref m28, .ref m29, .ref m30, .ref m31, .ref m32, .ref m33, .ref m34, .ref m35, .ref m36, .ref m37, .ref m38, .int 0, .int 0, .ref m41, .ref m42, .ref m43, .ref m44, .int 0, .int 0, .ref m47, .ref m48, .ref m49, .ref m50, .ref m51, .ref m52, .ref m53, .ref m54])), (m15, .inl (cI, 2, .inl (fun _ => 0)))] H := hP
  have hD : va_D A [(m0_, .inr (12, [.ref m0, .ref m1, .int 0, .int 0, .int 0, .int (-1), .int 0, .int 0, .int 0, .int 0, .long 0, .ref m11, .ref m12, .ref m13, .ref m14, .ref m15, .ref m16, .ref m17, .ref m18, .ref m19, .ref m20, .ref m21, .ref m22, .ref m23, .ref m24, .ref m25, .ref m26, .ref m27, .ref m28, .ref m29, .ref m30, .ref m31, .ref m32, .ref m33, .ref m34, .ref m35, .ref m36, .ref m37, .ref m38, .int 0, .int 0, .ref m41, .ref m42, .ref m43, .ref m44, .int 0, .int 0, .ref m47, .ref m48, .ref m49, .ref m50, .ref m51, .ref m52, .ref m53, .ref m54])), (m15, .inl (cI, 2, .inl (fun _ => 0)))] := hD
  subst h_2_r
  refine lv_if_eq (tgt := 15) hx hb d_Mo_alive_5 (by decide) (fun c_3 => ?_) (fun c_3 => absurd (by decide +kernel) c_3)
  refine lv_iconst (v := (-1)) hx hb d_Mo_alive_15 (by decide +kernel) ?_
  exact nz_reti C0 (hP.sub (ws' := [(m0_, .inr (12, [.ref m0, .ref m1, .int 0, .int 0, .int 0, .int (-1), .int 0, .int 0, .int 0, .int 0, .long 0, .ref m11, .ref m12, .ref m13, .ref m14, .ref m15, .ref m16, .ref m17, .ref m18, .ref m19, .ref m20, .ref m21, .ref m22, .ref m23, .ref m24, .ref m25, .ref m26, .ref m27, .ref m28, .ref m29, .ref m30, .ref m31, .ref m32, .ref m33, .ref m34, .ref m35, .ref m36, .ref m37, .ref m38, .int 0, .int 0, .ref m41, .ref m42, .ref m43, .ref m44, .int 0, .int 0, .ref m47, .ref m48, .ref m49, .ref m50, .ref m51, .ref m52, .ref m53, .ref m54])), (m15, .inl (cI, 2, .inl (fun _ => 0)))]) [0, 1] rfl) (hD.sub (ws' := [(m0_, .inr (12, [.ref m0, .ref m1, .int 0, .int 0, .int 0, .int (-1), .int 0, .int 0, .int 0, .int 0, .long 0, .ref m11, .ref m12, .ref m13, .ref m14, .ref m15, .ref m16, .ref m17, .ref m18, .ref m19, .ref m20, .ref m21, .ref m22, .ref m23, .ref m24, .ref m25, .ref m26, .ref m27, .ref m28, .ref m29, .ref m30, .ref m31, .ref m32, .ref m33, .ref m34, .ref m35, .ref m36, .ref m37, .ref m38, .int 0, .int 0, .ref m41, .ref m42, .ref m43, .ref m44, .int 0, .int 0, .ref m47, .ref m48, .ref m49, .ref m50, .ref m51, .ref m52, .ref m53, .ref m54])), (m15, .inl (cI, 2, .inl (fun _ => 0)))]) [0, 1] (by decide) rfl) hS ⟨rfl, rfl⟩ d_Mo_alive_16
set_option maxHeartbeats 4000000 in
set_option maxRecDepth 100000 in
theorem c_Mo_apart (l : Launch) (D : va_G) (cB cI cJ : ClassId) (m0_ : Nat) (p0 : Int32) (p1 : Int32) (m0 : Nat) (m1 : Nat) (m11 : Nat) (m12 : Nat) (m13 : Nat) (m14 : Nat) (m15 : Nat) (m16 : Nat) (m17 : Nat) (m18 : Nat) (m19 : Nat) (m20 : Nat) (m21 : Nat) (m22 : Nat) (m23 : Nat) (m24 : Nat) (m25 : Nat) (m26 : Nat) (m27 : Nat) (m28 : Nat) (m29 : Nat) (m30 : Nat) (m31 : Nat) (m32 : Nat) (m33 : Nat) (m34 : Nat) (m35 : Nat) (m36 : Nat) (m37 : Nat) (m38 : Nat) (m41 : Nat) (m42 : Nat) (m43 : Nat) (m44 : Nat) (m47 : Nat) (m48 : Nat) (m49 : Nat) (m50 : Nat) (m51 : Nat) (m52 : Nat) (m53 : Nat) (m54 : Nat) : nz_Ci l D cB cI cJ nz_x0 y_Mo_apart b_Mo_apart 3 (some .int) { frames := 2, cells := 0, slots := 0, locals := 43 } [.ref m0_, .int p0, .int p1] [(m0_, .inr (12, [.ref m0, .ref m1, .int 0, .int 0, .int 0, .int (-1), .int 0, .int 0, .int 0, .int 0, .long 0, .ref m11, .ref m12, .ref m13, .ref m14, .ref m15, .ref m16, .ref m17, .ref m18, .ref m19, .ref m20, .ref m21, .ref m22, .ref m23, .ref m24, .ref m25, .ref m26, .ref m27, .ref m28, .ref m29, .ref m30, .ref m31, .ref m32, .ref m33, .ref m34, .ref m35, .ref m36, .ref m37, .ref m38, .int 0, .int 0, .ref m41, .ref m42, .ref m43, .ref m44, .int 0, .int 0, .ref m47, .ref m48, .ref m49, .ref m50, .ref m51, .ref m52, .ref m53, .ref m54])), (m13, .inl (cI, 2, .inl (fun _ => 0)))] (fun r w => r = (-1) ∧ w = [(m0_, .inr (12, [.ref m0, .ref m1, .int 0, .int 0, .int 0, .int (-1), .int 0, .int 0, .int 0, .int 0, .long 0, .ref m11, .ref m12, .ref m13, .ref m14, .ref m15, .ref m16, .ref m17, .ref m18, .ref m19, .ref m20, .ref m21, .ref m22, .ref m23, .ref m24, .ref m25, .ref m26, .ref m27, .ref m28, .ref m29, .ref m30, .ref m31, .ref m32, .ref m33, .ref m34, .ref m35, .ref m36, .ref m37, .ref m38, .int 0, .int 0, .ref m41, .ref m42, .ref m43, .ref m44, .int 0, .int 0, .ref m47, .ref m48, .ref m49, .ref m50, .ref m51, .ref m52, .ref m53, .ref m54])), (m13, .inl (cI, 2, .inl (fun _ => 0)))]) := by
  refine nz_Ci.mk (by decide) (Nat.le_of_ble_eq_true rfl) ?_
  intro p e s m below meth c A ls C0 hnm hP hD hS hA hX hl
  have C0 : nz_Cx p s m _ meth c b_Mo_apart 3 (some .int) R_Mo D cB cI cJ := C0
  obtain ⟨hx, hb, hr, hml, hown, hts, hlk, hK⟩ := id C0
  have hl : lv_has ls 3 [(0, .ref m0_), (1, .int p0), (2, .int p1)] := hl
  refine lv_aload_n hx hb d_Mo_apart_0 rfl (lv_at hl 0 rfl) ?_
  refine lv_iload_n hx hb d_Mo_apart_1 rfl (lv_at hl 1 rfl) ?_
  refine nz_calVi (As := [.int p0]) (rest := []) C0 (c_Mo_isWordNo l D cB cI cJ m0_ p0 m0 m1 m11 m12 m13 m14 m15 m16 m17 m18 m19 m20 m21 m22 m23 m24 m25 m26 m27 m28 m29 m30 m31 m32 m33 m34 m35 m36 m37 m38 m41 m42 m43 m44 m47 m48 m49 m50 m51 m52 m53 m54) g_Mo_339 rfl nz_xb0 (by decide) hl.1 hP hD hS hA [0, 1] [] rfl (wr := []) rfl (by decide) (by decide) (by decide) rfl rfl (fun _ _ _ => trivial) rfl (by decide) d_Mo_apart_2 (by decide) (fun r_1 u H locs h_2 hP hD hS => ?_)
  obtain ⟨h_2_r, rfl⟩ := h_2
  have hP : va_P D nz_cl [(m0_, .inr (12, [.ref m0, .ref m1, .int 0, .int 0, .int 0, .int (-1), .int 0, .int 0, .int 0, .int 0, .long 0, .ref m11, .ref m12, .ref m13, .ref m14, .ref m15, .ref m16, .ref m17, .ref m18, .ref m19, .ref m20, .ref m21, .ref m22, .ref m23, .ref m24, .ref m25, .ref m26, .ref m27, .ref m28, .ref m29, .ref m30, .ref m31, .ref m32, .ref m33, .ref m34, .ref m35, .ref m36, .ref m37, .ref m38, .int 0, .int 0, .ref m41, .ref m42, .ref m43, .ref m44, .int 0, .int 0, .ref m47, .ref m48, .ref m49, .ref m50, .ref m51, .ref m52, .ref m53, .ref m54])), (m13, .inl (cI, 2, .inl (fun _ => 0)))] H := hP
  have hD : va_D A [(m0_, .inr (12, [.ref m0, .ref m1, .int 0, .int 0, .int 0, .int (-1), .int 0, .int 0, .int 0, .int 0, .long 0, .ref m11, .ref m12, .ref m13, .ref m14, .ref m15, .ref m16, .ref m17, .ref m18, .ref m19, .ref m20, .ref m21, .ref m22, .ref m23, .ref m24, .ref m25, .ref m26, .ref m27, .ref m28, .ref m29, .ref m30, .ref m31, .ref m32, .ref m33, .ref m34, .ref m35, .ref m36, .ref m37, .ref m38, .int 0, .int 0, .ref m41, .ref m42, .ref m43, .ref m44, .int 0, .int 0, .ref m47, .ref m48, .ref m49, .ref m50, .ref m51, .ref m52, .ref m53, .ref m54])), (m13, .inl (cI, 2, .inl (fun _ => 0)))] := hD
  subst h_2_r
  refine lv_if_eq (tgt := 33) hx hb d_Mo_apart_5 (by decide) (fun c_3 => ?_) (fun c_3 => absurd (by decide +kernel) c_3)
  refine lv_iconst (v := (-1)) hx hb d_Mo_apart_33 (by decide +kernel) ?_
  exact nz_reti C0 (hP.sub (ws' := [(m0_, .inr (12, [.ref m0, .ref m1, .int 0, .int 0, .int 0, .int (-1), .int 0, .int 0, .int 0, .int 0, .long 0, .ref m11, .ref m12, .ref m13, .ref m14, .ref m15, .ref m16, .ref m17, .ref m18, .ref m19, .ref m20, .ref m21, .ref m22, .ref m23, .ref m24, .ref m25, .ref m26, .ref m27, .ref m28, .ref m29, .ref m30, .ref m31, .ref m32, .ref m33, .ref m34, .ref m35, .ref m36, .ref m37, .ref m38, .int 0, .int 0, .ref m41, .ref m42, .ref m43, .ref m44, .int 0, .int 0, .ref m47, .ref m48, .ref m49, .ref m50, .ref m51, .ref m52, .ref m53, .ref m54])), (m13, .inl (cI, 2, .inl (fun _ => 0)))]) [0, 1] rfl) (hD.sub (ws' := [(m0_, .inr (12, [.ref m0, .ref m1, .int 0, .int 0, .int 0, .int (-1), .int 0, .int 0, .int 0, .int 0, .long 0, .ref m11, .ref m12, .ref m13, .ref m14, .ref m15, .ref m16, .ref m17, .ref m18, .ref m19, .ref m20, .ref m21, .ref m22, .ref m23, .ref m24, .ref m25, .ref m26, .ref m27, .ref m28, .ref m29, .ref m30, .ref m31, .ref m32, .ref m33, .ref m34, .ref m35, .ref m36, .ref m37, .ref m38, .int 0, .int 0, .ref m41, .ref m42, .ref m43, .ref m44, .int 0, .int 0, .ref m47, .ref m48, .ref m49, .ref m50, .ref m51, .ref m52, .ref m53, .ref m54])), (m13, .inl (cI, 2, .inl (fun _ => 0)))]) [0, 1] (by decide) rfl) hS ⟨rfl, rfl⟩ d_Mo_apart_34
set_option maxHeartbeats 4000000 in
set_option maxRecDepth 100000 in
theorem c_Mo_near (l : Launch) (D : va_G) (cB cI cJ : ClassId) (m0_ : Nat) (p0 : Int32) (p1 : Int32) (m0 : Nat) (m1 : Nat) (m11 : Nat) (m12 : Nat) (m13 : Nat) (m14 : Nat) (m15 : Nat) (m16 : Nat) (m17 : Nat) (m18 : Nat) (m19 : Nat) (m20 : Nat) (m21 : Nat) (m22 : Nat) (m23 : Nat) (m24 : Nat) (m25 : Nat) (m26 : Nat) (m27 : Nat) (m28 : Nat) (m29 : Nat) (m30 : Nat) (m31 : Nat) (m32 : Nat) (m33 : Nat) (m34 : Nat) (m35 : Nat) (m36 : Nat) (m37 : Nat) (m38 : Nat) (m41 : Nat) (m42 : Nat) (m43 : Nat) (m44 : Nat) (m47 : Nat) (m48 : Nat) (m49 : Nat) (m50 : Nat) (m51 : Nat) (m52 : Nat) (m53 : Nat) (m54 : Nat) : nz_Ci l D cB cI cJ nz_x0 y_Mo_near b_Mo_near 3 (some .int) { frames := 2, cells := 0, slots := 0, locals := 43 } [.ref m0_, .int p0, .int p1] [(m0_, .inr (12, [.ref m0, .ref m1, .int 0, .int 0, .int 0, .int (-1), .int 0, .int 0, .int 0, .int 0, .long 0, .ref m11, .ref m12, .ref m13, .ref m14, .ref m15, .ref m16, .ref m17, .ref m18, .ref m19, .ref m20, .ref m21, .ref m22, .ref m23, .ref m24, .ref m25, .ref m26, .ref m27, .ref m28, .ref m29, .ref m30, .ref m31, .ref m32, .ref m33, .ref m34, .ref m35, .ref m36, .ref m37, .ref m38, .int 0, .int 0, .ref m41, .ref m42, .ref m43, .ref m44, .int 0, .int 0, .ref m47, .ref m48, .ref m49, .ref m50, .ref m51, .ref m52, .ref m53, .ref m54])), (m15, .inl (cI, 2, .inl (fun _ => 0)))] (fun r w => r = (-1) ∧ w = [(m0_, .inr (12, [.ref m0, .ref m1, .int 0, .int 0, .int 0, .int (-1), .int 0, .int 0, .int 0, .int 0, .long 0, .ref m11, .ref m12, .ref m13, .ref m14, .ref m15, .ref m16, .ref m17, .ref m18, .ref m19, .ref m20, .ref m21, .ref m22, .ref m23, .ref m24, .ref m25, .ref m26, .ref m27, .ref m28, .ref m29, .ref m30, .ref m31, .ref m32, .ref m33, .ref m34, .ref m35, .ref m36, .ref m37, .ref m38, .int 0, .int 0, .ref m41, .ref m42, .ref m43, .ref m44, .int 0, .int 0, .ref m47, .ref m48, .ref m49, .ref m50, .ref m51, .ref m52, .ref m53, .ref m54])), (m15, .inl (cI, 2, .inl (fun _ => 0)))]) := by
  refine nz_Ci.mk (by decide) (Nat.le_of_ble_eq_true rfl) ?_
  intro p e s m below meth c A ls C0 hnm hP hD hS hA hX hl
  have C0 : nz_Cx p s m _ meth c b_Mo_near 3 (some .int) R_Mo D cB cI cJ := C0
  obtain ⟨hx, hb, hr, hml, hown, hts, hlk, hK⟩ := id C0
  have hl : lv_has ls 3 [(0, .ref m0_), (1, .int p0), (2, .int p1)] := hl
  refine lv_aload_n hx hb d_Mo_near_0 rfl (lv_at hl 0 rfl) ?_
  refine lv_iload_n hx hb d_Mo_near_1 rfl (lv_at hl 1 rfl) ?_
  refine nz_calVi (As := [.int p0]) (rest := []) C0 (c_Mo_isPerson l D cB cI cJ m0_ p0 m0 m1 m11 m12 m13 m14 m15 m16 m17 m18 m19 m20 m21 m22 m23 m24 m25 m26 m27 m28 m29 m30 m31 m32 m33 m34 m35 m36 m37 m38 m41 m42 m43 m44 m47 m48 m49 m50 m51 m52 m53 m54) g_Mo_309 rfl nz_xb0 (by decide) hl.1 hP hD hS hA [0, 1] [] rfl (wr := []) rfl (by decide) (by decide) (by decide) rfl rfl (fun _ _ _ => trivial) rfl (by decide) d_Mo_near_2 (by decide) (fun r_1 u H locs h_2 hP hD hS => ?_)
  obtain ⟨h_2_r, rfl⟩ := h_2
  have hP : va_P D nz_cl [(m0_, .inr (12, [.ref m0, .ref m1, .int 0, .int 0, .int 0, .int (-1), .int 0, .int 0, .int 0, .int 0, .long 0, .ref m11, .ref m12, .ref m13, .ref m14, .ref m15, .ref m16, .ref m17, .ref m18, .ref m19, .ref m20, .ref m21, .ref m22, .ref m23, .ref m24, .ref m25, .ref m26, .ref m27, .ref m28, .ref m29, .ref m30, .ref m31, .ref m32, .ref m33, .ref m34, .ref m35, .ref m36, .ref m37, .ref m38, .int 0, .int 0, .ref m41, .ref m42, .ref m43, .ref m44, .int 0, .int 0, .ref m47, .ref m48, .ref m49, .ref m50, .ref m51, .ref m52, .ref m53, .ref m54])), (m15, .inl (cI, 2, .inl (fun _ => 0)))] H := hP
  have hD : va_D A [(m0_, .inr (12, [.ref m0, .ref m1, .int 0, .int 0, .int 0, .int (-1), .int 0, .int 0, .int 0, .int 0, .long 0, .ref m11, .ref m12, .ref m13, .ref m14, .ref m15, .ref m16, .ref m17, .ref m18, .ref m19, .ref m20, .ref m21, .ref m22, .ref m23, .ref m24, .ref m25, .ref m26, .ref m27, .ref m28, .ref m29, .ref m30, .ref m31, .ref m32, .ref m33, .ref m34, .ref m35, .ref m36, .ref m37, .ref m38, .int 0, .int 0, .ref m41, .ref m42, .ref m43, .ref m44, .int 0, .int 0, .ref m47, .ref m48, .ref m49, .ref m50, .ref m51, .ref m52, .ref m53, .ref m54])), (m15, .inl (cI, 2, .inl (fun _ => 0)))] := hD
  subst h_2_r
  refine lv_if_eq (tgt := 30) hx hb d_Mo_near_5 (by decide) (fun c_3 => ?_) (fun c_3 => absurd (by decide +kernel) c_3)
  refine lv_iconst (v := (-1)) hx hb d_Mo_near_30 (by decide +kernel) ?_
  exact nz_reti C0 (hP.sub (ws' := [(m0_, .inr (12, [.ref m0, .ref m1, .int 0, .int 0, .int 0, .int (-1), .int 0, .int 0, .int 0, .int 0, .long 0, .ref m11, .ref m12, .ref m13, .ref m14, .ref m15, .ref m16, .ref m17, .ref m18, .ref m19, .ref m20, .ref m21, .ref m22, .ref m23, .ref m24, .ref m25, .ref m26, .ref m27, .ref m28, .ref m29, .ref m30, .ref m31, .ref m32, .ref m33, .ref m34, .ref m35, .ref m36, .ref m37, .ref m38, .int 0, .int 0, .ref m41, .ref m42, .ref m43, .ref m44, .int 0, .int 0, .ref m47, .ref m48, .ref m49, .ref m50, .ref m51, .ref m52, .ref m53, .ref m54])), (m15, .inl (cI, 2, .inl (fun _ => 0)))]) [0, 1] rfl) (hD.sub (ws' := [(m0_, .inr (12, [.ref m0, .ref m1, .int 0, .int 0, .int 0, .int (-1), .int 0, .int 0, .int 0, .int 0, .long 0, .ref m11, .ref m12, .ref m13, .ref m14, .ref m15, .ref m16, .ref m17, .ref m18, .ref m19, .ref m20, .ref m21, .ref m22, .ref m23, .ref m24, .ref m25, .ref m26, .ref m27, .ref m28, .ref m29, .ref m30, .ref m31, .ref m32, .ref m33, .ref m34, .ref m35, .ref m36, .ref m37, .ref m38, .int 0, .int 0, .ref m41, .ref m42, .ref m43, .ref m44, .int 0, .int 0, .ref m47, .ref m48, .ref m49, .ref m50, .ref m51, .ref m52, .ref m53, .ref m54])), (m15, .inl (cI, 2, .inl (fun _ => 0)))]) [0, 1] (by decide) rfl) hS ⟨rfl, rfl⟩ d_Mo_near_31
set_option maxHeartbeats 4000000 in
set_option maxRecDepth 100000 in
theorem c_Mo_may (l : Launch) (D : va_G) (cB cI cJ : ClassId) (m0_ : Nat) (p0 : Int32) (p1 : Int32) (p2 : Int32) (p3 : Int32) (p4 : Int32) (m0 : Nat) (m1 : Nat) (m11 : Nat) (m12 : Nat) (m13 : Nat) (m14 : Nat) (m15 : Nat) (m16 : Nat) (m17 : Nat) (m18 : Nat) (m19 : Nat) (m20 : Nat) (m21 : Nat) (m22 : Nat) (m23 : Nat) (m24 : Nat) (m25 : Nat) (m26 : Nat) (m27 : Nat) (m28 : Nat) (m29 : Nat) (m30 : Nat) (m31 : Nat) (m32 : Nat) (m33 : Nat) (m34 : Nat) (m35 : Nat) (m36 : Nat) (m37 : Nat) (m38 : Nat) (m41 : Nat) (m42 : Nat) (m43 : Nat) (m44 : Nat) (m47 : Nat) (m48 : Nat) (m49 : Nat) (m50 : Nat) (m51 : Nat) (m52 : Nat) (m53 : Nat) (m54 : Nat) : nz_Ci l D cB cI cJ nz_x0 y_Mo_may b_Mo_may 6 (some .int) { frames := 2, cells := 0, slots := 0, locals := 43 } [.ref m0_, .int p0, .int p1, .int p2, .int p3, .int p4] [(m0_, .inr (12, [.ref m0, .ref m1, .int 0, .int 0, .int 0, .int (-1), .int 0, .int 0, .int 0, .int 0, .long 0, .ref m11, .ref m12, .ref m13, .ref m14, .ref m15, .ref m16, .ref m17, .ref m18, .ref m19, .ref m20, .ref m21, .ref m22, .ref m23, .ref m24, .ref m25, .ref m26, .ref m27, .ref m28, .ref m29, .ref m30, .ref m31, .ref m32, .ref m33, .ref m34, .ref m35, .ref m36, .ref m37, .ref m38, .int 0, .int 0, .ref m41, .ref m42, .ref m43, .ref m44, .int 0, .int 0, .ref m47, .ref m48, .ref m49, .ref m50, .ref m51, .ref m52, .ref m53, .ref m54])), (m13, .inl (cI, 2, .inl (fun _ => 0)))] (fun r w => r = (-1) ∧ w = [(m0_, .inr (12, [.ref m0, .ref m1, .int 0, .int 0, .int 0, .int (-1), .int 0, .int 0, .int 0, .int 0, .long 0, .ref m11, .ref m12, .ref m13, .ref m14, .ref m15, .ref m16, .ref m17, .ref m18, .ref m19, .ref m20, .ref m21, .ref m22, .ref m23, .ref m24, .ref m25, .ref m26, .ref m27, .ref m28, .ref m29, .ref m30, .ref m31, .ref m32, .ref m33, .ref m34, .ref m35, .ref m36, .ref m37, .ref m38, .int 0, .int 0, .ref m41, .ref m42, .ref m43, .ref m44, .int 0, .int 0, .ref m47, .ref m48, .ref m49, .ref m50, .ref m51, .ref m52, .ref m53, .ref m54])), (m13, .inl (cI, 2, .inl (fun _ => 0)))]) := by
  refine nz_Ci.mk (by decide) (Nat.le_of_ble_eq_true rfl) ?_
  intro p e s m below meth c A ls C0 hnm hP hD hS hA hX hl
  have C0 : nz_Cx p s m _ meth c b_Mo_may 6 (some .int) R_Mo D cB cI cJ := C0
  obtain ⟨hx, hb, hr, hml, hown, hts, hlk, hK⟩ := id C0
  have hl : lv_has ls 6 [(0, .ref m0_), (1, .int p0), (2, .int p1), (3, .int p2), (4, .int p3), (5, .int p4)] := hl
  refine lv_aload_n hx hb d_Mo_may_0 rfl (lv_at hl 0 rfl) ?_
  refine lv_iload_n hx hb d_Mo_may_1 rfl (lv_at hl 3 rfl) ?_
  refine nz_calVi (As := [.int p2]) (rest := []) C0 (c_Mo_isWordNo l D cB cI cJ m0_ p2 m0 m1 m11 m12 m13 m14 m15 m16 m17 m18 m19 m20 m21 m22 m23 m24 m25 m26 m27 m28 m29 m30 m31 m32 m33 m34 m35 m36 m37 m38 m41 m42 m43 m44 m47 m48 m49 m50 m51 m52 m53 m54) g_Mo_339 rfl nz_xb0 (by decide) hl.1 hP hD hS hA [0, 1] [] rfl (wr := []) rfl (by decide) (by decide) (by decide) rfl rfl (fun _ _ _ => trivial) rfl (by decide) d_Mo_may_2 (by decide) (fun r_1 u H locs h_2 hP hD hS => ?_)
  obtain ⟨h_2_r, rfl⟩ := h_2
  have hP : va_P D nz_cl [(m0_, .inr (12, [.ref m0, .ref m1, .int 0, .int 0, .int 0, .int (-1), .int 0, .int 0, .int 0, .int 0, .long 0, .ref m11, .ref m12, .ref m13, .ref m14, .ref m15, .ref m16, .ref m17, .ref m18, .ref m19, .ref m20, .ref m21, .ref m22, .ref m23, .ref m24, .ref m25, .ref m26, .ref m27, .ref m28, .ref m29, .ref m30, .ref m31, .ref m32, .ref m33, .ref m34, .ref m35, .ref m36, .ref m37, .ref m38, .int 0, .int 0, .ref m41, .ref m42, .ref m43, .ref m44, .int 0, .int 0, .ref m47, .ref m48, .ref m49, .ref m50, .ref m51, .ref m52, .ref m53, .ref m54])), (m13, .inl (cI, 2, .inl (fun _ => 0)))] H := hP
  have hD : va_D A [(m0_, .inr (12, [.ref m0, .ref m1, .int 0, .int 0, .int 0, .int (-1), .int 0, .int 0, .int 0, .int 0, .long 0, .ref m11, .ref m12, .ref m13, .ref m14, .ref m15, .ref m16, .ref m17, .ref m18, .ref m19, .ref m20, .ref m21, .ref m22, .ref m23, .ref m24, .ref m25, .ref m26, .ref m27, .ref m28, .ref m29, .ref m30, .ref m31, .ref m32, .ref m33, .ref m34, .ref m35, .ref m36, .ref m37, .ref m38, .int 0, .int 0, .ref m41, .ref m42, .ref m43, .ref m44, .int 0, .int 0, .ref m47, .ref m48, .ref m49, .ref m50, .ref m51, .ref m52, .ref m53, .ref m54])), (m13, .inl (cI, 2, .inl (fun _ => 0)))] := hD
  subst h_2_r
  refine lv_if_eq (tgt := 21) hx hb d_Mo_may_5 (by decide) (fun c_3 => ?_) (fun c_3 => absurd (by decide +kernel) c_3)
  refine lv_iconst (v := (-1)) hx hb d_Mo_may_21 (by decide +kernel) ?_
  refine lv_goto (tgt := 42) hx hb d_Mo_may_22 (by decide) ?_
  exact nz_reti C0 (hP.sub (ws' := [(m0_, .inr (12, [.ref m0, .ref m1, .int 0, .int 0, .int 0, .int (-1), .int 0, .int 0, .int 0, .int 0, .long 0, .ref m11, .ref m12, .ref m13, .ref m14, .ref m15, .ref m16, .ref m17, .ref m18, .ref m19, .ref m20, .ref m21, .ref m22, .ref m23, .ref m24, .ref m25, .ref m26, .ref m27, .ref m28, .ref m29, .ref m30, .ref m31, .ref m32, .ref m33, .ref m34, .ref m35, .ref m36, .ref m37, .ref m38, .int 0, .int 0, .ref m41, .ref m42, .ref m43, .ref m44, .int 0, .int 0, .ref m47, .ref m48, .ref m49, .ref m50, .ref m51, .ref m52, .ref m53, .ref m54])), (m13, .inl (cI, 2, .inl (fun _ => 0)))]) [0, 1] rfl) (hD.sub (ws' := [(m0_, .inr (12, [.ref m0, .ref m1, .int 0, .int 0, .int 0, .int (-1), .int 0, .int 0, .int 0, .int 0, .long 0, .ref m11, .ref m12, .ref m13, .ref m14, .ref m15, .ref m16, .ref m17, .ref m18, .ref m19, .ref m20, .ref m21, .ref m22, .ref m23, .ref m24, .ref m25, .ref m26, .ref m27, .ref m28, .ref m29, .ref m30, .ref m31, .ref m32, .ref m33, .ref m34, .ref m35, .ref m36, .ref m37, .ref m38, .int 0, .int 0, .ref m41, .ref m42, .ref m43, .ref m44, .int 0, .int 0, .ref m47, .ref m48, .ref m49, .ref m50, .ref m51, .ref m52, .ref m53, .ref m54])), (m13, .inl (cI, 2, .inl (fun _ => 0)))]) [0, 1] (by decide) rfl) hS ⟨rfl, rfl⟩ d_Mo_may_42
set_option maxHeartbeats 4000000 in
set_option maxRecDepth 100000 in
theorem c_Mo_judge (l : Launch) (D : va_G) (cB cI cJ : ClassId) (m0_ : Nat) (p0 : Int32) (p1 : Int32) (p2 : Int32) (p3 : Int32) (p4 : Int32) (m0 : Nat) (m1 : Nat) (m11 : Nat) (m12 : Nat) (m13 : Nat) (m14 : Nat) (m15 : Nat) (m16 : Nat) (m17 : Nat) (m18 : Nat) (m19 : Nat) (m20 : Nat) (m21 : Nat) (m22 : Nat) (m23 : Nat) (m24 : Nat) (m25 : Nat) (m26 : Nat) (m27 : Nat) (m28 : Nat) (m29 : Nat) (m30 : Nat) (m31 : Nat) (m32 : Nat) (m33 : Nat) (m34 : Nat) (m35 : Nat) (m36 : Nat) (m37 : Nat) (m38 : Nat) (m41 : Nat) (m42 : Nat) (m43 : Nat) (m44 : Nat) (m47 : Nat) (m48 : Nat) (m49 : Nat) (m50 : Nat) (m51 : Nat) (m52 : Nat) (m53 : Nat) (m54 : Nat) : nz_Ci l D cB cI cJ nz_x0 y_Mo_judge b_Mo_judge 8 (some .int) { frames := 3, cells := 0, slots := 0, locals := 67 } [.ref m0_, .int p0, .int p1, .int p2, .int p3, .int p4] [(m0_, .inr (12, [.ref m0, .ref m1, .int 0, .int 0, .int 0, .int (-1), .int 0, .int 0, .int 0, .int 0, .long 0, .ref m11, .ref m12, .ref m13, .ref m14, .ref m15, .ref m16, .ref m17, .ref m18, .ref m19, .ref m20, .ref m21, .ref m22, .ref m23, .ref m24, .ref m25, .ref m26, .ref m27, .ref m28, .ref m29, .ref m30, .ref m31, .ref m32, .ref m33, .ref m34, .ref m35, .ref m36, .ref m37, .ref m38, .int 0, .int 0, .ref m41, .ref m42, .ref m43, .ref m44, .int 0, .int 0, .ref m47, .ref m48, .ref m49, .ref m50, .ref m51, .ref m52, .ref m53, .ref m54])), (m13, .inl (cI, 2, .inl (fun _ => 0))), (m15, .inl (cI, 2, .inl (fun _ => 0)))] (fun r w => r = (-1) ∧ w = [(m0_, .inr (12, [.ref m0, .ref m1, .int 0, .int 0, .int 0, .int (-1), .int 0, .int 0, .int 0, .int 0, .long 0, .ref m11, .ref m12, .ref m13, .ref m14, .ref m15, .ref m16, .ref m17, .ref m18, .ref m19, .ref m20, .ref m21, .ref m22, .ref m23, .ref m24, .ref m25, .ref m26, .ref m27, .ref m28, .ref m29, .ref m30, .ref m31, .ref m32, .ref m33, .ref m34, .ref m35, .ref m36, .ref m37, .ref m38, .int 0, .int 0, .ref m41, .ref m42, .ref m43, .ref m44, .int 0, .int 0, .ref m47, .ref m48, .ref m49, .ref m50, .ref m51, .ref m52, .ref m53, .ref m54])), (m13, .inl (cI, 2, .inl (fun _ => 0))), (m15, .inl (cI, 2, .inl (fun _ => 0)))]) := by
  refine nz_Ci.mk (by decide) (Nat.le_of_ble_eq_true rfl) ?_
  intro p e s m below meth c A ls C0 hnm hP hD hS hA hX hl
  have C0 : nz_Cx p s m _ meth c b_Mo_judge 8 (some .int) R_Mo D cB cI cJ := C0
  obtain ⟨hx, hb, hr, hml, hown, hts, hlk, hK⟩ := id C0
  have hl : lv_has ls 8 [(0, .ref m0_), (1, .int p0), (2, .int p1), (3, .int p2), (4, .int p3), (5, .int p4)] := hl
  refine lv_iload_n hx hb d_Mo_judge_0 rfl (lv_at hl 3 rfl) ?_
  refine lv_iconst (v := 1) hx hb d_Mo_judge_1 (by decide +kernel) ?_
  refine lv_icmp_lt (tgt := 19) hx hb d_Mo_judge_2 (by decide) (fun c_1 => ?_) (fun c_1 => ?_)
  · refine lv_iconst (v := (-1)) hx hb d_Mo_judge_19 (by decide +kernel) ?_
    exact nz_reti C0 (hP.sub (ws' := [(m0_, .inr (12, [.ref m0, .ref m1, .int 0, .int 0, .int 0, .int (-1), .int 0, .int 0, .int 0, .int 0, .long 0, .ref m11, .ref m12, .ref m13, .ref m14, .ref m15, .ref m16, .ref m17, .ref m18, .ref m19, .ref m20, .ref m21, .ref m22, .ref m23, .ref m24, .ref m25, .ref m26, .ref m27, .ref m28, .ref m29, .ref m30, .ref m31, .ref m32, .ref m33, .ref m34, .ref m35, .ref m36, .ref m37, .ref m38, .int 0, .int 0, .ref m41, .ref m42, .ref m43, .ref m44, .int 0, .int 0, .ref m47, .ref m48, .ref m49, .ref m50, .ref m51, .ref m52, .ref m53, .ref m54])), (m13, .inl (cI, 2, .inl (fun _ => 0))), (m15, .inl (cI, 2, .inl (fun _ => 0)))]) [0, 1, 2] rfl) (hD.sub (ws' := [(m0_, .inr (12, [.ref m0, .ref m1, .int 0, .int 0, .int 0, .int (-1), .int 0, .int 0, .int 0, .int 0, .long 0, .ref m11, .ref m12, .ref m13, .ref m14, .ref m15, .ref m16, .ref m17, .ref m18, .ref m19, .ref m20, .ref m21, .ref m22, .ref m23, .ref m24, .ref m25, .ref m26, .ref m27, .ref m28, .ref m29, .ref m30, .ref m31, .ref m32, .ref m33, .ref m34, .ref m35, .ref m36, .ref m37, .ref m38, .int 0, .int 0, .ref m41, .ref m42, .ref m43, .ref m44, .int 0, .int 0, .ref m47, .ref m48, .ref m49, .ref m50, .ref m51, .ref m52, .ref m53, .ref m54])), (m13, .inl (cI, 2, .inl (fun _ => 0))), (m15, .inl (cI, 2, .inl (fun _ => 0)))]) [0, 1, 2] (by decide) rfl) hS ⟨rfl, rfl⟩ d_Mo_judge_20
  · refine lv_iload_n hx hb d_Mo_judge_5 rfl (lv_at hl 3 rfl) ?_
    refine lv_ldc_w (v := 33554432) hx hb hown (hts _ k_1421) d_Mo_judge_6 ?_
    refine lv_icmp_ge (tgt := 19) hx hb d_Mo_judge_9 (by decide) (fun c_2 => ?_) (fun c_2 => ?_)
    · refine lv_iconst (v := (-1)) hx hb d_Mo_judge_19 (by decide +kernel) ?_
      exact nz_reti C0 (hP.sub (ws' := [(m0_, .inr (12, [.ref m0, .ref m1, .int 0, .int 0, .int 0, .int (-1), .int 0, .int 0, .int 0, .int 0, .long 0, .ref m11, .ref m12, .ref m13, .ref m14, .ref m15, .ref m16, .ref m17, .ref m18, .ref m19, .ref m20, .ref m21, .ref m22, .ref m23, .ref m24, .ref m25, .ref m26, .ref m27, .ref m28, .ref m29, .ref m30, .ref m31, .ref m32, .ref m33, .ref m34, .ref m35, .ref m36, .ref m37, .ref m38, .int 0, .int 0, .ref m41, .ref m42, .ref m43, .ref m44, .int 0, .int 0, .ref m47, .ref m48, .ref m49, .ref m50, .ref m51, .ref m52, .ref m53, .ref m54])), (m13, .inl (cI, 2, .inl (fun _ => 0))), (m15, .inl (cI, 2, .inl (fun _ => 0)))]) [0, 1, 2] rfl) (hD.sub (ws' := [(m0_, .inr (12, [.ref m0, .ref m1, .int 0, .int 0, .int 0, .int (-1), .int 0, .int 0, .int 0, .int 0, .long 0, .ref m11, .ref m12, .ref m13, .ref m14, .ref m15, .ref m16, .ref m17, .ref m18, .ref m19, .ref m20, .ref m21, .ref m22, .ref m23, .ref m24, .ref m25, .ref m26, .ref m27, .ref m28, .ref m29, .ref m30, .ref m31, .ref m32, .ref m33, .ref m34, .ref m35, .ref m36, .ref m37, .ref m38, .int 0, .int 0, .ref m41, .ref m42, .ref m43, .ref m44, .int 0, .int 0, .ref m47, .ref m48, .ref m49, .ref m50, .ref m51, .ref m52, .ref m53, .ref m54])), (m13, .inl (cI, 2, .inl (fun _ => 0))), (m15, .inl (cI, 2, .inl (fun _ => 0)))]) [0, 1, 2] (by decide) rfl) hS ⟨rfl, rfl⟩ d_Mo_judge_20
    · refine lv_iload_n hx hb d_Mo_judge_12 rfl (lv_at hl 3 rfl) ?_
      refine lv_bipush (v := 32) hx hb d_Mo_judge_13 (by decide +kernel) ?_
      refine lv_irem hx hb d_Mo_judge_15 (by decide +kernel) ?_
      refine lv_topi (fun x_3 e_4 => ?_)
      refine lv_if_ne (tgt := 21) hx hb d_Mo_judge_16 (by decide) (fun c_5 => ?_) (fun c_5 => ?_)
      · refine lv_iload_n hx hb d_Mo_judge_21 rfl (lv_at hl 3 rfl) ?_
        refine lv_istore (lv' := [(6, .int p2), (0, .ref m0_), (1, .int p0), (2, .int p1), (3, .int p2), (4, .int p3), (5, .int p4)]) hx hb d_Mo_judge_22 hl (by decide) rfl (fun ls hl => ?_)
        refine lv_iload hx hb d_Mo_judge_24 (lv_at hl 0 rfl) ?_
        refine lv_bipush (v := 32) hx hb d_Mo_judge_26 (by decide +kernel) ?_
        refine lv_irem hx hb d_Mo_judge_28 (by decide +kernel) ?_
        refine lv_topi (fun x_6 e_7 => ?_)
        refine lv_if_le (tgt := 58) hx hb d_Mo_judge_29 (by decide) (fun c_8 => ?_) (fun c_8 => ?_)
        · refine lv_aload_n hx hb d_Mo_judge_58 rfl (lv_at hl 1 rfl) ?_
          refine lv_iload_n hx hb d_Mo_judge_59 rfl (lv_at hl 2 rfl) ?_
          refine lv_iload_n hx hb d_Mo_judge_60 rfl (lv_at hl 3 rfl) ?_
          refine lv_iload hx hb d_Mo_judge_61 (lv_at hl 5 rfl) ?_
          refine lv_iload hx hb d_Mo_judge_63 (lv_at hl 6 rfl) ?_
          refine nz_calVi (As := [.int p0, .int p1, .int p3, .int p4]) (rest := []) C0 (c_Mo_speak l D cB cI cJ m0_ p0 p1 p3 p4 m0 m1 m11 m12 m13 m14 m15 m16 m17 m18 m19 m20 m21 m22 m23 m24 m25 m26 m27 m28 m29 m30 m31 m32 m33 m34 m35 m36 m37 m38 m41 m42 m43 m44 m47 m48 m49 m50 m51 m52 m53 m54) g_Mo_370 rfl nz_xb0 (by decide) hl.1 hP hD hS hA [0, 2] [1] rfl (wr := [(m13, .inl (cI, 2, .inl (fun _ => 0)))]) rfl (by decide) (by decide) (by decide) rfl rfl (fun _ _ _ => trivial) rfl (by decide) d_Mo_judge_65 (by decide) (fun r_9 u H locs h_10 hP hD hS => ?_)
          obtain ⟨h_10_r, rfl⟩ := h_10
          have hP : va_P D nz_cl [(m13, .inl (cI, 2, .inl (fun _ => 0))), (m0_, .inr (12, [.ref m0, .ref m1, .int 0, .int 0, .int 0, .int (-1), .int 0, .int 0, .int 0, .int 0, .long 0, .ref m11, .ref m12, .ref m13, .ref m14, .ref m15, .ref m16, .ref m17, .ref m18, .ref m19, .ref m20, .ref m21, .ref m22, .ref m23, .ref m24, .ref m25, .ref m26, .ref m27, .ref m28, .ref m29, .ref m30, .ref m31, .ref m32, .ref m33, .ref m34, .ref m35, .ref m36, .ref m37, .ref m38, .int 0, .int 0, .ref m41, .ref m42, .ref m43, .ref m44, .int 0, .int 0, .ref m47, .ref m48, .ref m49, .ref m50, .ref m51, .ref m52, .ref m53, .ref m54])), (m15, .inl (cI, 2, .inl (fun _ => 0)))] H := hP
          have hD : va_D A [(m13, .inl (cI, 2, .inl (fun _ => 0))), (m0_, .inr (12, [.ref m0, .ref m1, .int 0, .int 0, .int 0, .int (-1), .int 0, .int 0, .int 0, .int 0, .long 0, .ref m11, .ref m12, .ref m13, .ref m14, .ref m15, .ref m16, .ref m17, .ref m18, .ref m19, .ref m20, .ref m21, .ref m22, .ref m23, .ref m24, .ref m25, .ref m26, .ref m27, .ref m28, .ref m29, .ref m30, .ref m31, .ref m32, .ref m33, .ref m34, .ref m35, .ref m36, .ref m37, .ref m38, .int 0, .int 0, .ref m41, .ref m42, .ref m43, .ref m44, .int 0, .int 0, .ref m47, .ref m48, .ref m49, .ref m50, .ref m51, .ref m52, .ref m53, .ref m54])), (m15, .inl (cI, 2, .inl (fun _ => 0)))] := hD
          subst h_10_r
          refine lv_if_ne (tgt := 73) hx hb d_Mo_judge_68 (by decide) (fun c_11 => absurd c_11 (by decide +kernel)) (fun c_11 => ?_)
          refine lv_iconst (v := (-1)) hx hb d_Mo_judge_71 (by decide +kernel) ?_
          exact nz_reti C0 (hP.sub (ws' := [(m0_, .inr (12, [.ref m0, .ref m1, .int 0, .int 0, .int 0, .int (-1), .int 0, .int 0, .int 0, .int 0, .long 0, .ref m11, .ref m12, .ref m13, .ref m14, .ref m15, .ref m16, .ref m17, .ref m18, .ref m19, .ref m20, .ref m21, .ref m22, .ref m23, .ref m24, .ref m25, .ref m26, .ref m27, .ref m28, .ref m29, .ref m30, .ref m31, .ref m32, .ref m33, .ref m34, .ref m35, .ref m36, .ref m37, .ref m38, .int 0, .int 0, .ref m41, .ref m42, .ref m43, .ref m44, .int 0, .int 0, .ref m47, .ref m48, .ref m49, .ref m50, .ref m51, .ref m52, .ref m53, .ref m54])), (m13, .inl (cI, 2, .inl (fun _ => 0))), (m15, .inl (cI, 2, .inl (fun _ => 0)))]) [1, 0, 2] rfl) (hD.sub (ws' := [(m0_, .inr (12, [.ref m0, .ref m1, .int 0, .int 0, .int 0, .int (-1), .int 0, .int 0, .int 0, .int 0, .long 0, .ref m11, .ref m12, .ref m13, .ref m14, .ref m15, .ref m16, .ref m17, .ref m18, .ref m19, .ref m20, .ref m21, .ref m22, .ref m23, .ref m24, .ref m25, .ref m26, .ref m27, .ref m28, .ref m29, .ref m30, .ref m31, .ref m32, .ref m33, .ref m34, .ref m35, .ref m36, .ref m37, .ref m38, .int 0, .int 0, .ref m41, .ref m42, .ref m43, .ref m44, .int 0, .int 0, .ref m47, .ref m48, .ref m49, .ref m50, .ref m51, .ref m52, .ref m53, .ref m54])), (m13, .inl (cI, 2, .inl (fun _ => 0))), (m15, .inl (cI, 2, .inl (fun _ => 0)))]) [1, 0, 2] (by decide) rfl) hS ⟨rfl, rfl⟩ d_Mo_judge_72
        · refine lv_aload_n hx hb d_Mo_judge_32 rfl (lv_at hl 1 rfl) ?_
          refine lv_iload hx hb d_Mo_judge_33 (lv_at hl 0 rfl) ?_
          refine lv_bipush (v := 32) hx hb d_Mo_judge_35 (by decide +kernel) ?_
          refine lv_irem hx hb d_Mo_judge_37 (by decide +kernel) ?_
          refine lv_topi (fun x_12 e_13 => ?_)
          refine lv_iconst (v := 1) hx hb d_Mo_judge_38 (by decide +kernel) ?_
          refine lv_isub hx hb d_Mo_judge_39 ?_
          refine lv_topi (fun x_14 e_15 => ?_)
          refine nz_calVi (As := [.int x_14]) (rest := []) C0 (c_Mo_isWordNo l D cB cI cJ m0_ x_14 m0 m1 m11 m12 m13 m14 m15 m16 m17 m18 m19 m20 m21 m22 m23 m24 m25 m26 m27 m28 m29 m30 m31 m32 m33 m34 m35 m36 m37 m38 m41 m42 m43 m44 m47 m48 m49 m50 m51 m52 m53 m54) g_Mo_339 rfl nz_xb0 (by decide) hl.1 hP hD hS hA [0, 1] [2] rfl (wr := [(m15, .inl (cI, 2, .inl (fun _ => 0)))]) rfl (by decide) (by decide) (by decide) rfl rfl (fun _ _ _ => trivial) rfl (by decide) d_Mo_judge_40 (by decide) (fun r_16 u H locs h_17 hP hD hS => ?_)
          obtain ⟨h_17_r, rfl⟩ := h_17
          have hP : va_P D nz_cl [(m15, .inl (cI, 2, .inl (fun _ => 0))), (m0_, .inr (12, [.ref m0, .ref m1, .int 0, .int 0, .int 0, .int (-1), .int 0, .int 0, .int 0, .int 0, .long 0, .ref m11, .ref m12, .ref m13, .ref m14, .ref m15, .ref m16, .ref m17, .ref m18, .ref m19, .ref m20, .ref m21, .ref m22, .ref m23, .ref m24, .ref m25, .ref m26, .ref m27, .ref m28, .ref m29, .ref m30, .ref m31, .ref m32, .ref m33, .ref m34, .ref m35, .ref m36, .ref m37, .ref m38, .int 0, .int 0, .ref m41, .ref m42, .ref m43, .ref m44, .int 0, .int 0, .ref m47, .ref m48, .ref m49, .ref m50, .ref m51, .ref m52, .ref m53, .ref m54])), (m13, .inl (cI, 2, .inl (fun _ => 0)))] H := hP
          have hD : va_D A [(m15, .inl (cI, 2, .inl (fun _ => 0))), (m0_, .inr (12, [.ref m0, .ref m1, .int 0, .int 0, .int 0, .int (-1), .int 0, .int 0, .int 0, .int 0, .long 0, .ref m11, .ref m12, .ref m13, .ref m14, .ref m15, .ref m16, .ref m17, .ref m18, .ref m19, .ref m20, .ref m21, .ref m22, .ref m23, .ref m24, .ref m25, .ref m26, .ref m27, .ref m28, .ref m29, .ref m30, .ref m31, .ref m32, .ref m33, .ref m34, .ref m35, .ref m36, .ref m37, .ref m38, .int 0, .int 0, .ref m41, .ref m42, .ref m43, .ref m44, .int 0, .int 0, .ref m47, .ref m48, .ref m49, .ref m50, .ref m51, .ref m52, .ref m53, .ref m54])), (m13, .inl (cI, 2, .inl (fun _ => 0)))] := hD
          subst h_17_r
          refine lv_if_ne (tgt := 48) hx hb d_Mo_judge_43 (by decide) (fun c_18 => absurd c_18 (by decide +kernel)) (fun c_18 => ?_)
          refine lv_iconst (v := (-1)) hx hb d_Mo_judge_46 (by decide +kernel) ?_
          exact nz_reti C0 (hP.sub (ws' := [(m0_, .inr (12, [.ref m0, .ref m1, .int 0, .int 0, .int 0, .int (-1), .int 0, .int 0, .int 0, .int 0, .long 0, .ref m11, .ref m12, .ref m13, .ref m14, .ref m15, .ref m16, .ref m17, .ref m18, .ref m19, .ref m20, .ref m21, .ref m22, .ref m23, .ref m24, .ref m25, .ref m26, .ref m27, .ref m28, .ref m29, .ref m30, .ref m31, .ref m32, .ref m33, .ref m34, .ref m35, .ref m36, .ref m37, .ref m38, .int 0, .int 0, .ref m41, .ref m42, .ref m43, .ref m44, .int 0, .int 0, .ref m47, .ref m48, .ref m49, .ref m50, .ref m51, .ref m52, .ref m53, .ref m54])), (m13, .inl (cI, 2, .inl (fun _ => 0))), (m15, .inl (cI, 2, .inl (fun _ => 0)))]) [1, 2, 0] rfl) (hD.sub (ws' := [(m0_, .inr (12, [.ref m0, .ref m1, .int 0, .int 0, .int 0, .int (-1), .int 0, .int 0, .int 0, .int 0, .long 0, .ref m11, .ref m12, .ref m13, .ref m14, .ref m15, .ref m16, .ref m17, .ref m18, .ref m19, .ref m20, .ref m21, .ref m22, .ref m23, .ref m24, .ref m25, .ref m26, .ref m27, .ref m28, .ref m29, .ref m30, .ref m31, .ref m32, .ref m33, .ref m34, .ref m35, .ref m36, .ref m37, .ref m38, .int 0, .int 0, .ref m41, .ref m42, .ref m43, .ref m44, .int 0, .int 0, .ref m47, .ref m48, .ref m49, .ref m50, .ref m51, .ref m52, .ref m53, .ref m54])), (m13, .inl (cI, 2, .inl (fun _ => 0))), (m15, .inl (cI, 2, .inl (fun _ => 0)))]) [1, 2, 0] (by decide) rfl) hS ⟨rfl, rfl⟩ d_Mo_judge_47
      · refine lv_iconst (v := (-1)) hx hb d_Mo_judge_19 (by decide +kernel) ?_
        exact nz_reti C0 (hP.sub (ws' := [(m0_, .inr (12, [.ref m0, .ref m1, .int 0, .int 0, .int 0, .int (-1), .int 0, .int 0, .int 0, .int 0, .long 0, .ref m11, .ref m12, .ref m13, .ref m14, .ref m15, .ref m16, .ref m17, .ref m18, .ref m19, .ref m20, .ref m21, .ref m22, .ref m23, .ref m24, .ref m25, .ref m26, .ref m27, .ref m28, .ref m29, .ref m30, .ref m31, .ref m32, .ref m33, .ref m34, .ref m35, .ref m36, .ref m37, .ref m38, .int 0, .int 0, .ref m41, .ref m42, .ref m43, .ref m44, .int 0, .int 0, .ref m47, .ref m48, .ref m49, .ref m50, .ref m51, .ref m52, .ref m53, .ref m54])), (m13, .inl (cI, 2, .inl (fun _ => 0))), (m15, .inl (cI, 2, .inl (fun _ => 0)))]) [0, 1, 2] rfl) (hD.sub (ws' := [(m0_, .inr (12, [.ref m0, .ref m1, .int 0, .int 0, .int 0, .int (-1), .int 0, .int 0, .int 0, .int 0, .long 0, .ref m11, .ref m12, .ref m13, .ref m14, .ref m15, .ref m16, .ref m17, .ref m18, .ref m19, .ref m20, .ref m21, .ref m22, .ref m23, .ref m24, .ref m25, .ref m26, .ref m27, .ref m28, .ref m29, .ref m30, .ref m31, .ref m32, .ref m33, .ref m34, .ref m35, .ref m36, .ref m37, .ref m38, .int 0, .int 0, .ref m41, .ref m42, .ref m43, .ref m44, .int 0, .int 0, .ref m47, .ref m48, .ref m49, .ref m50, .ref m51, .ref m52, .ref m53, .ref m54])), (m13, .inl (cI, 2, .inl (fun _ => 0))), (m15, .inl (cI, 2, .inl (fun _ => 0)))]) [0, 1, 2] (by decide) rfl) hS ⟨rfl, rfl⟩ d_Mo_judge_20
set_option maxHeartbeats 4000000 in
set_option maxRecDepth 100000 in
theorem c_Mo_instead (l : Launch) (D : va_G) (cB cI cJ : ClassId) (m0_ : Nat) (p0 : Int32) (p1 : Int32) (p2 : Int32) (p3 : Int32) (p4 : Int32) (m0 : Nat) (m1 : Nat) (m11 : Nat) (m12 : Nat) (m13 : Nat) (m14 : Nat) (m15 : Nat) (m16 : Nat) (m17 : Nat) (m18 : Nat) (m19 : Nat) (m20 : Nat) (m21 : Nat) (m22 : Nat) (m23 : Nat) (m24 : Nat) (m25 : Nat) (m26 : Nat) (m27 : Nat) (m28 : Nat) (m29 : Nat) (m30 : Nat) (m31 : Nat) (m32 : Nat) (m33 : Nat) (m34 : Nat) (m35 : Nat) (m36 : Nat) (m37 : Nat) (m38 : Nat) (m41 : Nat) (m42 : Nat) (m43 : Nat) (m44 : Nat) (m47 : Nat) (m48 : Nat) (m49 : Nat) (m50 : Nat) (m51 : Nat) (m52 : Nat) (m53 : Nat) (m54 : Nat) : nz_Ci l D cB cI cJ nz_x0 y_Mo_instead b_Mo_instead 6 (some .int) { frames := 2, cells := 0, slots := 0, locals := 43 } [.ref m0_, .int p0, .int p1, .int p2, .int p3, .int p4] [(m0_, .inr (12, [.ref m0, .ref m1, .int 0, .int 0, .int 0, .int (-1), .int 0, .int 0, .int 0, .int 0, .long 0, .ref m11, .ref m12, .ref m13, .ref m14, .ref m15, .ref m16, .ref m17, .ref m18, .ref m19, .ref m20, .ref m21, .ref m22, .ref m23, .ref m24, .ref m25, .ref m26, .ref m27, .ref m28, .ref m29, .ref m30, .ref m31, .ref m32, .ref m33, .ref m34, .ref m35, .ref m36, .ref m37, .ref m38, .int 0, .int 0, .ref m41, .ref m42, .ref m43, .ref m44, .int 0, .int 0, .ref m47, .ref m48, .ref m49, .ref m50, .ref m51, .ref m52, .ref m53, .ref m54])), (m12, .inl (cI, 2, .inl (fun _ => 0)))] (fun r w => r = (-1) ∧ w = [(m0_, .inr (12, [.ref m0, .ref m1, .int 0, .int 0, .int 0, .int (-1), .int 0, .int 0, .int 0, .int 0, .long 0, .ref m11, .ref m12, .ref m13, .ref m14, .ref m15, .ref m16, .ref m17, .ref m18, .ref m19, .ref m20, .ref m21, .ref m22, .ref m23, .ref m24, .ref m25, .ref m26, .ref m27, .ref m28, .ref m29, .ref m30, .ref m31, .ref m32, .ref m33, .ref m34, .ref m35, .ref m36, .ref m37, .ref m38, .int 0, .int 0, .ref m41, .ref m42, .ref m43, .ref m44, .int 0, .int 0, .ref m47, .ref m48, .ref m49, .ref m50, .ref m51, .ref m52, .ref m53, .ref m54])), (m12, .inl (cI, 2, .inl (fun _ => 0)))]) := by
  refine nz_Ci.mk (by decide) (Nat.le_of_ble_eq_true rfl) ?_
  intro p e s m below meth c A ls C0 hnm hP hD hS hA hX hl
  have C0 : nz_Cx p s m _ meth c b_Mo_instead 6 (some .int) R_Mo D cB cI cJ := C0
  obtain ⟨hx, hb, hr, hml, hown, hts, hlk, hK⟩ := id C0
  have hl : lv_has ls 6 [(0, .ref m0_), (1, .int p0), (2, .int p1), (3, .int p2), (4, .int p3), (5, .int p4)] := hl
  refine lv_aload_n hx hb d_Mo_instead_0 rfl (lv_at hl 0 rfl) ?_
  refine lv_iload_n hx hb d_Mo_instead_1 rfl (lv_at hl 3 rfl) ?_
  refine nz_calVi (As := [.int p2]) (rest := []) C0 (c_Mo_isMeaning l D cB cI cJ m0_ p2 m0 m1 m11 m12 m13 m14 m15 m16 m17 m18 m19 m20 m21 m22 m23 m24 m25 m26 m27 m28 m29 m30 m31 m32 m33 m34 m35 m36 m37 m38 m41 m42 m43 m44 m47 m48 m49 m50 m51 m52 m53 m54) g_Mo_388 rfl nz_xb0 (by decide) hl.1 hP hD hS hA [0, 1] [] rfl (wr := []) rfl (by decide) (by decide) (by decide) rfl rfl (fun _ _ _ => trivial) rfl (by decide) d_Mo_instead_2 (by decide) (fun r_1 u H locs h_2 hP hD hS => ?_)
  obtain ⟨h_2_r, rfl⟩ := h_2
  have hP : va_P D nz_cl [(m0_, .inr (12, [.ref m0, .ref m1, .int 0, .int 0, .int 0, .int (-1), .int 0, .int 0, .int 0, .int 0, .long 0, .ref m11, .ref m12, .ref m13, .ref m14, .ref m15, .ref m16, .ref m17, .ref m18, .ref m19, .ref m20, .ref m21, .ref m22, .ref m23, .ref m24, .ref m25, .ref m26, .ref m27, .ref m28, .ref m29, .ref m30, .ref m31, .ref m32, .ref m33, .ref m34, .ref m35, .ref m36, .ref m37, .ref m38, .int 0, .int 0, .ref m41, .ref m42, .ref m43, .ref m44, .int 0, .int 0, .ref m47, .ref m48, .ref m49, .ref m50, .ref m51, .ref m52, .ref m53, .ref m54])), (m12, .inl (cI, 2, .inl (fun _ => 0)))] H := hP
  have hD : va_D A [(m0_, .inr (12, [.ref m0, .ref m1, .int 0, .int 0, .int 0, .int (-1), .int 0, .int 0, .int 0, .int 0, .long 0, .ref m11, .ref m12, .ref m13, .ref m14, .ref m15, .ref m16, .ref m17, .ref m18, .ref m19, .ref m20, .ref m21, .ref m22, .ref m23, .ref m24, .ref m25, .ref m26, .ref m27, .ref m28, .ref m29, .ref m30, .ref m31, .ref m32, .ref m33, .ref m34, .ref m35, .ref m36, .ref m37, .ref m38, .int 0, .int 0, .ref m41, .ref m42, .ref m43, .ref m44, .int 0, .int 0, .ref m47, .ref m48, .ref m49, .ref m50, .ref m51, .ref m52, .ref m53, .ref m54])), (m12, .inl (cI, 2, .inl (fun _ => 0)))] := hD
  subst h_2_r
  refine lv_if_eq (tgt := 33) hx hb d_Mo_instead_5 (by decide) (fun c_3 => ?_) (fun c_3 => absurd (by decide +kernel) c_3)
  refine lv_iconst (v := (-1)) hx hb d_Mo_instead_33 (by decide +kernel) ?_
  exact nz_reti C0 (hP.sub (ws' := [(m0_, .inr (12, [.ref m0, .ref m1, .int 0, .int 0, .int 0, .int (-1), .int 0, .int 0, .int 0, .int 0, .long 0, .ref m11, .ref m12, .ref m13, .ref m14, .ref m15, .ref m16, .ref m17, .ref m18, .ref m19, .ref m20, .ref m21, .ref m22, .ref m23, .ref m24, .ref m25, .ref m26, .ref m27, .ref m28, .ref m29, .ref m30, .ref m31, .ref m32, .ref m33, .ref m34, .ref m35, .ref m36, .ref m37, .ref m38, .int 0, .int 0, .ref m41, .ref m42, .ref m43, .ref m44, .int 0, .int 0, .ref m47, .ref m48, .ref m49, .ref m50, .ref m51, .ref m52, .ref m53, .ref m54])), (m12, .inl (cI, 2, .inl (fun _ => 0)))]) [0, 1] rfl) (hD.sub (ws' := [(m0_, .inr (12, [.ref m0, .ref m1, .int 0, .int 0, .int 0, .int (-1), .int 0, .int 0, .int 0, .int 0, .long 0, .ref m11, .ref m12, .ref m13, .ref m14, .ref m15, .ref m16, .ref m17, .ref m18, .ref m19, .ref m20, .ref m21, .ref m22, .ref m23, .ref m24, .ref m25, .ref m26, .ref m27, .ref m28, .ref m29, .ref m30, .ref m31, .ref m32, .ref m33, .ref m34, .ref m35, .ref m36, .ref m37, .ref m38, .int 0, .int 0, .ref m41, .ref m42, .ref m43, .ref m44, .int 0, .int 0, .ref m47, .ref m48, .ref m49, .ref m50, .ref m51, .ref m52, .ref m53, .ref m54])), (m12, .inl (cI, 2, .inl (fun _ => 0)))]) [0, 1] (by decide) rfl) hS ⟨rfl, rfl⟩ d_Mo_instead_34
set_option maxHeartbeats 4000000 in
set_option maxRecDepth 100000 in
theorem c_Mo_cost (l : Launch) (D : va_G) (cB cI cJ : ClassId) (m0_ : Nat) (p0 : Int32) (p1 : Int32) (p2 : Int32) (p3 : Int32) (p4 : Int32) (m0 : Nat) (m1 : Nat) (m11 : Nat) (m12 : Nat) (m13 : Nat) (m14 : Nat) (m15 : Nat) (m16 : Nat) (m17 : Nat) (m18 : Nat) (m19 : Nat) (m20 : Nat) (m21 : Nat) (m22 : Nat) (m23 : Nat) (m24 : Nat) (m25 : Nat) (m26 : Nat) (m27 : Nat) (m28 : Nat) (m29 : Nat) (m30 : Nat) (m31 : Nat) (m32 : Nat) (m33 : Nat) (m34 : Nat) (m35 : Nat) (m36 : Nat) (m37 : Nat) (m38 : Nat) (m41 : Nat) (m42 : Nat) (m43 : Nat) (m44 : Nat) (m47 : Nat) (m48 : Nat) (m49 : Nat) (m50 : Nat) (m51 : Nat) (m52 : Nat) (m53 : Nat) (m54 : Nat) : nz_Ci l D cB cI cJ nz_x0 y_Mo_cost b_Mo_cost 11 (some .int) { frames := 2, cells := 0, slots := 0, locals := 43 } [.ref m0_, .int p0, .int p1, .int p2, .int p3, .int p4] [(m0_, .inr (12, [.ref m0, .ref m1, .int 0, .int 0, .int 0, .int (-1), .int 0, .int 0, .int 0, .int 0, .long 0, .ref m11, .ref m12, .ref m13, .ref m14, .ref m15, .ref m16, .ref m17, .ref m18, .ref m19, .ref m20, .ref m21, .ref m22, .ref m23, .ref m24, .ref m25, .ref m26, .ref m27, .ref m28, .ref m29, .ref m30, .ref m31, .ref m32, .ref m33, .ref m34, .ref m35, .ref m36, .ref m37, .ref m38, .int 0, .int 0, .ref m41, .ref m42, .ref m43, .ref m44, .int 0, .int 0, .ref m47, .ref m48, .ref m49, .ref m50, .ref m51, .ref m52, .ref m53, .ref m54])), (m12, .inl (cI, 2, .inl (fun _ => 0)))] (fun r w => r = (-1) ∧ w = [(m0_, .inr (12, [.ref m0, .ref m1, .int 0, .int 0, .int 0, .int (-1), .int 0, .int 0, .int 0, .int 0, .long 0, .ref m11, .ref m12, .ref m13, .ref m14, .ref m15, .ref m16, .ref m17, .ref m18, .ref m19, .ref m20, .ref m21, .ref m22, .ref m23, .ref m24, .ref m25, .ref m26, .ref m27, .ref m28, .ref m29, .ref m30, .ref m31, .ref m32, .ref m33, .ref m34, .ref m35, .ref m36, .ref m37, .ref m38, .int 0, .int 0, .ref m41, .ref m42, .ref m43, .ref m44, .int 0, .int 0, .ref m47, .ref m48, .ref m49, .ref m50, .ref m51, .ref m52, .ref m53, .ref m54])), (m12, .inl (cI, 2, .inl (fun _ => 0)))]) := by
  refine nz_Ci.mk (by decide) (Nat.le_of_ble_eq_true rfl) ?_
  intro p e s m below meth c A ls C0 hnm hP hD hS hA hX hl
  have C0 : nz_Cx p s m _ meth c b_Mo_cost 11 (some .int) R_Mo D cB cI cJ := C0
  obtain ⟨hx, hb, hr, hml, hown, hts, hlk, hK⟩ := id C0
  have hl : lv_has ls 11 [(0, .ref m0_), (1, .int p0), (2, .int p1), (3, .int p2), (4, .int p3), (5, .int p4)] := hl
  refine lv_aload_n hx hb d_Mo_cost_0 rfl (lv_at hl 0 rfl) ?_
  refine lv_iload_n hx hb d_Mo_cost_1 rfl (lv_at hl 3 rfl) ?_
  refine nz_calVi (As := [.int p2]) (rest := []) C0 (c_Mo_isMeaning l D cB cI cJ m0_ p2 m0 m1 m11 m12 m13 m14 m15 m16 m17 m18 m19 m20 m21 m22 m23 m24 m25 m26 m27 m28 m29 m30 m31 m32 m33 m34 m35 m36 m37 m38 m41 m42 m43 m44 m47 m48 m49 m50 m51 m52 m53 m54) g_Mo_388 rfl nz_xb0 (by decide) hl.1 hP hD hS hA [0, 1] [] rfl (wr := []) rfl (by decide) (by decide) (by decide) rfl rfl (fun _ _ _ => trivial) rfl (by decide) d_Mo_cost_2 (by decide) (fun r_1 u H locs h_2 hP hD hS => ?_)
  obtain ⟨h_2_r, rfl⟩ := h_2
  have hP : va_P D nz_cl [(m0_, .inr (12, [.ref m0, .ref m1, .int 0, .int 0, .int 0, .int (-1), .int 0, .int 0, .int 0, .int 0, .long 0, .ref m11, .ref m12, .ref m13, .ref m14, .ref m15, .ref m16, .ref m17, .ref m18, .ref m19, .ref m20, .ref m21, .ref m22, .ref m23, .ref m24, .ref m25, .ref m26, .ref m27, .ref m28, .ref m29, .ref m30, .ref m31, .ref m32, .ref m33, .ref m34, .ref m35, .ref m36, .ref m37, .ref m38, .int 0, .int 0, .ref m41, .ref m42, .ref m43, .ref m44, .int 0, .int 0, .ref m47, .ref m48, .ref m49, .ref m50, .ref m51, .ref m52, .ref m53, .ref m54])), (m12, .inl (cI, 2, .inl (fun _ => 0)))] H := hP
  have hD : va_D A [(m0_, .inr (12, [.ref m0, .ref m1, .int 0, .int 0, .int 0, .int (-1), .int 0, .int 0, .int 0, .int 0, .long 0, .ref m11, .ref m12, .ref m13, .ref m14, .ref m15, .ref m16, .ref m17, .ref m18, .ref m19, .ref m20, .ref m21, .ref m22, .ref m23, .ref m24, .ref m25, .ref m26, .ref m27, .ref m28, .ref m29, .ref m30, .ref m31, .ref m32, .ref m33, .ref m34, .ref m35, .ref m36, .ref m37, .ref m38, .int 0, .int 0, .ref m41, .ref m42, .ref m43, .ref m44, .int 0, .int 0, .ref m47, .ref m48, .ref m49, .ref m50, .ref m51, .ref m52, .ref m53, .ref m54])), (m12, .inl (cI, 2, .inl (fun _ => 0)))] := hD
  subst h_2_r
  refine lv_if_eq (tgt := 21) hx hb d_Mo_cost_5 (by decide) (fun c_3 => ?_) (fun c_3 => absurd (by decide +kernel) c_3)
  refine lv_iconst (v := (-1)) hx hb d_Mo_cost_21 (by decide +kernel) ?_
  exact nz_reti C0 (hP.sub (ws' := [(m0_, .inr (12, [.ref m0, .ref m1, .int 0, .int 0, .int 0, .int (-1), .int 0, .int 0, .int 0, .int 0, .long 0, .ref m11, .ref m12, .ref m13, .ref m14, .ref m15, .ref m16, .ref m17, .ref m18, .ref m19, .ref m20, .ref m21, .ref m22, .ref m23, .ref m24, .ref m25, .ref m26, .ref m27, .ref m28, .ref m29, .ref m30, .ref m31, .ref m32, .ref m33, .ref m34, .ref m35, .ref m36, .ref m37, .ref m38, .int 0, .int 0, .ref m41, .ref m42, .ref m43, .ref m44, .int 0, .int 0, .ref m47, .ref m48, .ref m49, .ref m50, .ref m51, .ref m52, .ref m53, .ref m54])), (m12, .inl (cI, 2, .inl (fun _ => 0)))]) [0, 1] rfl) (hD.sub (ws' := [(m0_, .inr (12, [.ref m0, .ref m1, .int 0, .int 0, .int 0, .int (-1), .int 0, .int 0, .int 0, .int 0, .long 0, .ref m11, .ref m12, .ref m13, .ref m14, .ref m15, .ref m16, .ref m17, .ref m18, .ref m19, .ref m20, .ref m21, .ref m22, .ref m23, .ref m24, .ref m25, .ref m26, .ref m27, .ref m28, .ref m29, .ref m30, .ref m31, .ref m32, .ref m33, .ref m34, .ref m35, .ref m36, .ref m37, .ref m38, .int 0, .int 0, .ref m41, .ref m42, .ref m43, .ref m44, .int 0, .int 0, .ref m47, .ref m48, .ref m49, .ref m50, .ref m51, .ref m52, .ref m53, .ref m54])), (m12, .inl (cI, 2, .inl (fun _ => 0)))]) [0, 1] (by decide) rfl) hS ⟨rfl, rfl⟩ d_Mo_cost_22
set_option maxHeartbeats 4000000 in
set_option maxRecDepth 100000 in
theorem c_Mo_grasp (l : Launch) (D : va_G) (cB cI cJ : ClassId) (m0_ : Nat) (p0 : Int32) (p1 : Int32) (p2 : Int32) (p3 : Int32) (m0 : Nat) (m1 : Nat) (m11 : Nat) (m12 : Nat) (m13 : Nat) (m14 : Nat) (m15 : Nat) (m16 : Nat) (m17 : Nat) (m18 : Nat) (m19 : Nat) (m20 : Nat) (m21 : Nat) (m22 : Nat) (m23 : Nat) (m24 : Nat) (m25 : Nat) (m26 : Nat) (m27 : Nat) (m28 : Nat) (m29 : Nat) (m30 : Nat) (m31 : Nat) (m32 : Nat) (m33 : Nat) (m34 : Nat) (m35 : Nat) (m36 : Nat) (m37 : Nat) (m38 : Nat) (m41 : Nat) (m42 : Nat) (m43 : Nat) (m44 : Nat) (m47 : Nat) (m48 : Nat) (m49 : Nat) (m50 : Nat) (m51 : Nat) (m52 : Nat) (m53 : Nat) (m54 : Nat) : nz_Ci l D cB cI cJ nz_x0 y_Mo_grasp b_Mo_grasp 5 (some .int) { frames := 3, cells := 0, slots := 0, locals := 67 } [.ref m0_, .int p0, .int p1, .int p2, .int p3] [(m0_, .inr (12, [.ref m0, .ref m1, .int 0, .int 0, .int 0, .int (-1), .int 0, .int 0, .int 0, .int 0, .long 0, .ref m11, .ref m12, .ref m13, .ref m14, .ref m15, .ref m16, .ref m17, .ref m18, .ref m19, .ref m20, .ref m21, .ref m22, .ref m23, .ref m24, .ref m25, .ref m26, .ref m27, .ref m28, .ref m29, .ref m30, .ref m31, .ref m32, .ref m33, .ref m34, .ref m35, .ref m36, .ref m37, .ref m38, .int 0, .int 0, .ref m41, .ref m42, .ref m43, .ref m44, .int 0, .int 0, .ref m47, .ref m48, .ref m49, .ref m50, .ref m51, .ref m52, .ref m53, .ref m54])), (m15, .inl (cI, 2, .inl (fun _ => 0)))] (fun r w => r = (-1) ∧ w = [(m0_, .inr (12, [.ref m0, .ref m1, .int 0, .int 0, .int 0, .int (-1), .int 0, .int 0, .int 0, .int 0, .long 0, .ref m11, .ref m12, .ref m13, .ref m14, .ref m15, .ref m16, .ref m17, .ref m18, .ref m19, .ref m20, .ref m21, .ref m22, .ref m23, .ref m24, .ref m25, .ref m26, .ref m27, .ref m28, .ref m29, .ref m30, .ref m31, .ref m32, .ref m33, .ref m34, .ref m35, .ref m36, .ref m37, .ref m38, .int 0, .int 0, .ref m41, .ref m42, .ref m43, .ref m44, .int 0, .int 0, .ref m47, .ref m48, .ref m49, .ref m50, .ref m51, .ref m52, .ref m53, .ref m54])), (m15, .inl (cI, 2, .inl (fun _ => 0)))]) := by
  refine nz_Ci.mk (by decide) (Nat.le_of_ble_eq_true rfl) ?_
  intro p e s m below meth c A ls C0 hnm hP hD hS hA hX hl
  have C0 : nz_Cx p s m _ meth c b_Mo_grasp 5 (some .int) R_Mo D cB cI cJ := C0
  obtain ⟨hx, hb, hr, hml, hown, hts, hlk, hK⟩ := id C0
  have hl : lv_has ls 5 [(0, .ref m0_), (1, .int p0), (2, .int p1), (3, .int p2), (4, .int p3)] := hl
  refine lv_aload_n hx hb d_Mo_grasp_0 rfl (lv_at hl 0 rfl) ?_
  refine lv_iload_n hx hb d_Mo_grasp_1 rfl (lv_at hl 1 rfl) ?_
  refine lv_iload_n hx hb d_Mo_grasp_2 rfl (lv_at hl 2 rfl) ?_
  refine lv_iload_n hx hb d_Mo_grasp_3 rfl (lv_at hl 3 rfl) ?_
  refine lv_iload hx hb d_Mo_grasp_4 (lv_at hl 4 rfl) ?_
  refine nz_calVi (As := [.int p0, .int p1, .int p2, .int p3]) (rest := []) C0 (c_Mo_speak l D cB cI cJ m0_ p0 p1 p2 p3 m0 m1 m11 m12 m13 m14 m15 m16 m17 m18 m19 m20 m21 m22 m23 m24 m25 m26 m27 m28 m29 m30 m31 m32 m33 m34 m35 m36 m37 m38 m41 m42 m43 m44 m47 m48 m49 m50 m51 m52 m53 m54) g_Mo_370 rfl nz_xb0 (by decide) hl.1 hP hD hS hA [0, 1] [] rfl (wr := []) rfl (by decide) (by decide) (by decide) rfl rfl (fun _ _ _ => trivial) rfl (by decide) d_Mo_grasp_6 (by decide) (fun r_1 u H locs h_2 hP hD hS => ?_)
  obtain ⟨h_2_r, rfl⟩ := h_2
  have hP : va_P D nz_cl [(m0_, .inr (12, [.ref m0, .ref m1, .int 0, .int 0, .int 0, .int (-1), .int 0, .int 0, .int 0, .int 0, .long 0, .ref m11, .ref m12, .ref m13, .ref m14, .ref m15, .ref m16, .ref m17, .ref m18, .ref m19, .ref m20, .ref m21, .ref m22, .ref m23, .ref m24, .ref m25, .ref m26, .ref m27, .ref m28, .ref m29, .ref m30, .ref m31, .ref m32, .ref m33, .ref m34, .ref m35, .ref m36, .ref m37, .ref m38, .int 0, .int 0, .ref m41, .ref m42, .ref m43, .ref m44, .int 0, .int 0, .ref m47, .ref m48, .ref m49, .ref m50, .ref m51, .ref m52, .ref m53, .ref m54])), (m15, .inl (cI, 2, .inl (fun _ => 0)))] H := hP
  have hD : va_D A [(m0_, .inr (12, [.ref m0, .ref m1, .int 0, .int 0, .int 0, .int (-1), .int 0, .int 0, .int 0, .int 0, .long 0, .ref m11, .ref m12, .ref m13, .ref m14, .ref m15, .ref m16, .ref m17, .ref m18, .ref m19, .ref m20, .ref m21, .ref m22, .ref m23, .ref m24, .ref m25, .ref m26, .ref m27, .ref m28, .ref m29, .ref m30, .ref m31, .ref m32, .ref m33, .ref m34, .ref m35, .ref m36, .ref m37, .ref m38, .int 0, .int 0, .ref m41, .ref m42, .ref m43, .ref m44, .int 0, .int 0, .ref m47, .ref m48, .ref m49, .ref m50, .ref m51, .ref m52, .ref m53, .ref m54])), (m15, .inl (cI, 2, .inl (fun _ => 0)))] := hD
  subst h_2_r
  refine lv_if_eq (tgt := 22) hx hb d_Mo_grasp_9 (by decide) (fun c_3 => ?_) (fun c_3 => absurd (by decide +kernel) c_3)
  refine lv_iconst (v := (-1)) hx hb d_Mo_grasp_22 (by decide +kernel) ?_
  exact nz_reti C0 (hP.sub (ws' := [(m0_, .inr (12, [.ref m0, .ref m1, .int 0, .int 0, .int 0, .int (-1), .int 0, .int 0, .int 0, .int 0, .long 0, .ref m11, .ref m12, .ref m13, .ref m14, .ref m15, .ref m16, .ref m17, .ref m18, .ref m19, .ref m20, .ref m21, .ref m22, .ref m23, .ref m24, .ref m25, .ref m26, .ref m27, .ref m28, .ref m29, .ref m30, .ref m31, .ref m32, .ref m33, .ref m34, .ref m35, .ref m36, .ref m37, .ref m38, .int 0, .int 0, .ref m41, .ref m42, .ref m43, .ref m44, .int 0, .int 0, .ref m47, .ref m48, .ref m49, .ref m50, .ref m51, .ref m52, .ref m53, .ref m54])), (m15, .inl (cI, 2, .inl (fun _ => 0)))]) [0, 1] rfl) (hD.sub (ws' := [(m0_, .inr (12, [.ref m0, .ref m1, .int 0, .int 0, .int 0, .int (-1), .int 0, .int 0, .int 0, .int 0, .long 0, .ref m11, .ref m12, .ref m13, .ref m14, .ref m15, .ref m16, .ref m17, .ref m18, .ref m19, .ref m20, .ref m21, .ref m22, .ref m23, .ref m24, .ref m25, .ref m26, .ref m27, .ref m28, .ref m29, .ref m30, .ref m31, .ref m32, .ref m33, .ref m34, .ref m35, .ref m36, .ref m37, .ref m38, .int 0, .int 0, .ref m41, .ref m42, .ref m43, .ref m44, .int 0, .int 0, .ref m47, .ref m48, .ref m49, .ref m50, .ref m51, .ref m52, .ref m53, .ref m54])), (m15, .inl (cI, 2, .inl (fun _ => 0)))]) [0, 1] (by decide) rfl) hS ⟨rfl, rfl⟩ d_Mo_grasp_23
set_option maxHeartbeats 4000000 in
set_option maxRecDepth 100000 in
theorem c_Mo_today (l : Launch) (D : va_G) (cB cI cJ : ClassId) (m0_ : Nat) (p0 : Int32) (p1 : Int32) (p2 : Int32) (p3 : Int32) (m0 : Nat) (m1 : Nat) (m11 : Nat) (m12 : Nat) (m13 : Nat) (m14 : Nat) (m15 : Nat) (m16 : Nat) (m17 : Nat) (m18 : Nat) (m19 : Nat) (m20 : Nat) (m21 : Nat) (m22 : Nat) (m23 : Nat) (m24 : Nat) (m25 : Nat) (m26 : Nat) (m27 : Nat) (m28 : Nat) (m29 : Nat) (m30 : Nat) (m31 : Nat) (m32 : Nat) (m33 : Nat) (m34 : Nat) (m35 : Nat) (m36 : Nat) (m37 : Nat) (m38 : Nat) (m41 : Nat) (m42 : Nat) (m43 : Nat) (m44 : Nat) (m47 : Nat) (m48 : Nat) (m49 : Nat) (m50 : Nat) (m51 : Nat) (m52 : Nat) (m53 : Nat) (m54 : Nat) : nz_Ci l D cB cI cJ nz_x0 y_Mo_today b_Mo_today 5 (some .int) { frames := 2, cells := 0, slots := 0, locals := 43 } [.ref m0_, .int p0, .int p1, .int p2, .int p3] [(m0_, .inr (12, [.ref m0, .ref m1, .int 0, .int 0, .int 0, .int (-1), .int 0, .int 0, .int 0, .int 0, .long 0, .ref m11, .ref m12, .ref m13, .ref m14, .ref m15, .ref m16, .ref m17, .ref m18, .ref m19, .ref m20, .ref m21, .ref m22, .ref m23, .ref m24, .ref m25, .ref m26, .ref m27, .ref m28, .ref m29, .ref m30, .ref m31, .ref m32, .ref m33, .ref m34, .ref m35, .ref m36, .ref m37, .ref m38, .int 0, .int 0, .ref m41, .ref m42, .ref m43, .ref m44, .int 0, .int 0, .ref m47, .ref m48, .ref m49, .ref m50, .ref m51, .ref m52, .ref m53, .ref m54])), (m11, .inl (cI, 2, .inl (fun _ => 0)))] (fun r w => r = (-1) ∧ w = [(m0_, .inr (12, [.ref m0, .ref m1, .int 0, .int 0, .int 0, .int (-1), .int 0, .int 0, .int 0, .int 0, .long 0, .ref m11, .ref m12, .ref m13, .ref m14, .ref m15, .ref m16, .ref m17, .ref m18, .ref m19, .ref m20, .ref m21, .ref m22, .ref m23, .ref m24, .ref m25, .ref m26, .ref m27, .ref m28, .ref m29, .ref m30, .ref m31, .ref m32, .ref m33, .ref m34, .ref m35, .ref m36, .ref m37, .ref m38, .int 0, .int 0, .ref m41, .ref m42, .ref m43, .ref m44, .int 0, .int 0, .ref m47, .ref m48, .ref m49, .ref m50, .ref m51, .ref m52, .ref m53, .ref m54])), (m11, .inl (cI, 2, .inl (fun _ => 0)))]) := by
  refine nz_Ci.mk (by decide) (Nat.le_of_ble_eq_true rfl) ?_
  intro p e s m below meth c A ls C0 hnm hP hD hS hA hX hl
  have C0 : nz_Cx p s m _ meth c b_Mo_today 5 (some .int) R_Mo D cB cI cJ := C0
  obtain ⟨hx, hb, hr, hml, hown, hts, hlk, hK⟩ := id C0
  have hl : lv_has ls 5 [(0, .ref m0_), (1, .int p0), (2, .int p1), (3, .int p2), (4, .int p3)] := hl
  refine lv_aload_n hx hb d_Mo_today_0 rfl (lv_at hl 0 rfl) ?_
  refine lv_iload_n hx hb d_Mo_today_1 rfl (lv_at hl 1 rfl) ?_
  refine nz_calVi (As := [.int p0]) (rest := []) C0 (c_Mo_isPlace l D cB cI cJ m0_ p0 m0 m1 m11 m12 m13 m14 m15 m16 m17 m18 m19 m20 m21 m22 m23 m24 m25 m26 m27 m28 m29 m30 m31 m32 m33 m34 m35 m36 m37 m38 m41 m42 m43 m44 m47 m48 m49 m50 m51 m52 m53 m54) g_Mo_402 rfl nz_xb0 (by decide) hl.1 hP hD hS hA [0, 1] [] rfl (wr := []) rfl (by decide) (by decide) (by decide) rfl rfl (fun _ _ _ => trivial) rfl (by decide) d_Mo_today_2 (by decide) (fun r_1 u H locs h_2 hP hD hS => ?_)
  obtain ⟨h_2_r, rfl⟩ := h_2
  have hP : va_P D nz_cl [(m0_, .inr (12, [.ref m0, .ref m1, .int 0, .int 0, .int 0, .int (-1), .int 0, .int 0, .int 0, .int 0, .long 0, .ref m11, .ref m12, .ref m13, .ref m14, .ref m15, .ref m16, .ref m17, .ref m18, .ref m19, .ref m20, .ref m21, .ref m22, .ref m23, .ref m24, .ref m25, .ref m26, .ref m27, .ref m28, .ref m29, .ref m30, .ref m31, .ref m32, .ref m33, .ref m34, .ref m35, .ref m36, .ref m37, .ref m38, .int 0, .int 0, .ref m41, .ref m42, .ref m43, .ref m44, .int 0, .int 0, .ref m47, .ref m48, .ref m49, .ref m50, .ref m51, .ref m52, .ref m53, .ref m54])), (m11, .inl (cI, 2, .inl (fun _ => 0)))] H := hP
  have hD : va_D A [(m0_, .inr (12, [.ref m0, .ref m1, .int 0, .int 0, .int 0, .int (-1), .int 0, .int 0, .int 0, .int 0, .long 0, .ref m11, .ref m12, .ref m13, .ref m14, .ref m15, .ref m16, .ref m17, .ref m18, .ref m19, .ref m20, .ref m21, .ref m22, .ref m23, .ref m24, .ref m25, .ref m26, .ref m27, .ref m28, .ref m29, .ref m30, .ref m31, .ref m32, .ref m33, .ref m34, .ref m35, .ref m36, .ref m37, .ref m38, .int 0, .int 0, .ref m41, .ref m42, .ref m43, .ref m44, .int 0, .int 0, .ref m47, .ref m48, .ref m49, .ref m50, .ref m51, .ref m52, .ref m53, .ref m54])), (m11, .inl (cI, 2, .inl (fun _ => 0)))] := hD
  subst h_2_r
  refine lv_if_eq (tgt := 23) hx hb d_Mo_today_5 (by decide) (fun c_3 => ?_) (fun c_3 => absurd (by decide +kernel) c_3)
  refine lv_iconst (v := (-1)) hx hb d_Mo_today_23 (by decide +kernel) ?_
  exact nz_reti C0 (hP.sub (ws' := [(m0_, .inr (12, [.ref m0, .ref m1, .int 0, .int 0, .int 0, .int (-1), .int 0, .int 0, .int 0, .int 0, .long 0, .ref m11, .ref m12, .ref m13, .ref m14, .ref m15, .ref m16, .ref m17, .ref m18, .ref m19, .ref m20, .ref m21, .ref m22, .ref m23, .ref m24, .ref m25, .ref m26, .ref m27, .ref m28, .ref m29, .ref m30, .ref m31, .ref m32, .ref m33, .ref m34, .ref m35, .ref m36, .ref m37, .ref m38, .int 0, .int 0, .ref m41, .ref m42, .ref m43, .ref m44, .int 0, .int 0, .ref m47, .ref m48, .ref m49, .ref m50, .ref m51, .ref m52, .ref m53, .ref m54])), (m11, .inl (cI, 2, .inl (fun _ => 0)))]) [0, 1] rfl) (hD.sub (ws' := [(m0_, .inr (12, [.ref m0, .ref m1, .int 0, .int 0, .int 0, .int (-1), .int 0, .int 0, .int 0, .int 0, .long 0, .ref m11, .ref m12, .ref m13, .ref m14, .ref m15, .ref m16, .ref m17, .ref m18, .ref m19, .ref m20, .ref m21, .ref m22, .ref m23, .ref m24, .ref m25, .ref m26, .ref m27, .ref m28, .ref m29, .ref m30, .ref m31, .ref m32, .ref m33, .ref m34, .ref m35, .ref m36, .ref m37, .ref m38, .int 0, .int 0, .ref m41, .ref m42, .ref m43, .ref m44, .int 0, .int 0, .ref m47, .ref m48, .ref m49, .ref m50, .ref m51, .ref m52, .ref m53, .ref m54])), (m11, .inl (cI, 2, .inl (fun _ => 0)))]) [0, 1] (by decide) rfl) hS ⟨rfl, rfl⟩ d_Mo_today_24
set_option maxHeartbeats 4000000 in
set_option maxRecDepth 100000 in
theorem c_Mo_parted (l : Launch) (D : va_G) (cB cI cJ : ClassId) (m0_ : Nat) (p0 : Int32) (p1 : Int32) (p2 : Int32) (p3 : Int32) (m0 : Nat) (m1 : Nat) (m11 : Nat) (m12 : Nat) (m13 : Nat) (m14 : Nat) (m15 : Nat) (m16 : Nat) (m17 : Nat) (m18 : Nat) (m19 : Nat) (m20 : Nat) (m21 : Nat) (m22 : Nat) (m23 : Nat) (m24 : Nat) (m25 : Nat) (m26 : Nat) (m27 : Nat) (m28 : Nat) (m29 : Nat) (m30 : Nat) (m31 : Nat) (m32 : Nat) (m33 : Nat) (m34 : Nat) (m35 : Nat) (m36 : Nat) (m37 : Nat) (m38 : Nat) (m41 : Nat) (m42 : Nat) (m43 : Nat) (m44 : Nat) (m47 : Nat) (m48 : Nat) (m49 : Nat) (m50 : Nat) (m51 : Nat) (m52 : Nat) (m53 : Nat) (m54 : Nat) : nz_Ci l D cB cI cJ nz_x0 y_Mo_parted b_Mo_parted 7 (some .int) { frames := 2, cells := 0, slots := 0, locals := 43 } [.ref m0_, .int p0, .int p1, .int p2, .int p3] [(m0_, .inr (12, [.ref m0, .ref m1, .int 0, .int 0, .int 0, .int (-1), .int 0, .int 0, .int 0, .int 0, .long 0, .ref m11, .ref m12, .ref m13, .ref m14, .ref m15, .ref m16, .ref m17, .ref m18, .ref m19, .ref m20, .ref m21, .ref m22, .ref m23, .ref m24, .ref m25, .ref m26, .ref m27, .ref m28, .ref m29, .ref m30, .ref m31, .ref m32, .ref m33, .ref m34, .ref m35, .ref m36, .ref m37, .ref m38, .int 0, .int 0, .ref m41, .ref m42, .ref m43, .ref m44, .int 0, .int 0, .ref m47, .ref m48, .ref m49, .ref m50, .ref m51, .ref m52, .ref m53, .ref m54])), (m11, .inl (cI, 2, .inl (fun _ => 0)))] (fun r w => r = (-1) ∧ w = [(m0_, .inr (12, [.ref m0, .ref m1, .int 0, .int 0, .int 0, .int (-1), .int 0, .int 0, .int 0, .int 0, .long 0, .ref m11, .ref m12, .ref m13, .ref m14, .ref m15, .ref m16, .ref m17, .ref m18, .ref m19, .ref m20, .ref m21, .ref m22, .ref m23, .ref m24, .ref m25, .ref m26, .ref m27, .ref m28, .ref m29, .ref m30, .ref m31, .ref m32, .ref m33, .ref m34, .ref m35, .ref m36, .ref m37, .ref m38, .int 0, .int 0, .ref m41, .ref m42, .ref m43, .ref m44, .int 0, .int 0, .ref m47, .ref m48, .ref m49, .ref m50, .ref m51, .ref m52, .ref m53, .ref m54])), (m11, .inl (cI, 2, .inl (fun _ => 0)))]) := by
  refine nz_Ci.mk (by decide) (Nat.le_of_ble_eq_true rfl) ?_
  intro p e s m below meth c A ls C0 hnm hP hD hS hA hX hl
  have C0 : nz_Cx p s m _ meth c b_Mo_parted 7 (some .int) R_Mo D cB cI cJ := C0
  obtain ⟨hx, hb, hr, hml, hown, hts, hlk, hK⟩ := id C0
  have hl : lv_has ls 7 [(0, .ref m0_), (1, .int p0), (2, .int p1), (3, .int p2), (4, .int p3)] := hl
  refine lv_aload_n hx hb d_Mo_parted_0 rfl (lv_at hl 0 rfl) ?_
  refine lv_iload_n hx hb d_Mo_parted_1 rfl (lv_at hl 1 rfl) ?_
  refine nz_calVi (As := [.int p0]) (rest := []) C0 (c_Mo_isPlace l D cB cI cJ m0_ p0 m0 m1 m11 m12 m13 m14 m15 m16 m17 m18 m19 m20 m21 m22 m23 m24 m25 m26 m27 m28 m29 m30 m31 m32 m33 m34 m35 m36 m37 m38 m41 m42 m43 m44 m47 m48 m49 m50 m51 m52 m53 m54) g_Mo_402 rfl nz_xb0 (by decide) hl.1 hP hD hS hA [0, 1] [] rfl (wr := []) rfl (by decide) (by decide) (by decide) rfl rfl (fun _ _ _ => trivial) rfl (by decide) d_Mo_parted_2 (by decide) (fun r_1 u H locs h_2 hP hD hS => ?_)
  obtain ⟨h_2_r, rfl⟩ := h_2
  have hP : va_P D nz_cl [(m0_, .inr (12, [.ref m0, .ref m1, .int 0, .int 0, .int 0, .int (-1), .int 0, .int 0, .int 0, .int 0, .long 0, .ref m11, .ref m12, .ref m13, .ref m14, .ref m15, .ref m16, .ref m17, .ref m18, .ref m19, .ref m20, .ref m21, .ref m22, .ref m23, .ref m24, .ref m25, .ref m26, .ref m27, .ref m28, .ref m29, .ref m30, .ref m31, .ref m32, .ref m33, .ref m34, .ref m35, .ref m36, .ref m37, .ref m38, .int 0, .int 0, .ref m41, .ref m42, .ref m43, .ref m44, .int 0, .int 0, .ref m47, .ref m48, .ref m49, .ref m50, .ref m51, .ref m52, .ref m53, .ref m54])), (m11, .inl (cI, 2, .inl (fun _ => 0)))] H := hP
  have hD : va_D A [(m0_, .inr (12, [.ref m0, .ref m1, .int 0, .int 0, .int 0, .int (-1), .int 0, .int 0, .int 0, .int 0, .long 0, .ref m11, .ref m12, .ref m13, .ref m14, .ref m15, .ref m16, .ref m17, .ref m18, .ref m19, .ref m20, .ref m21, .ref m22, .ref m23, .ref m24, .ref m25, .ref m26, .ref m27, .ref m28, .ref m29, .ref m30, .ref m31, .ref m32, .ref m33, .ref m34, .ref m35, .ref m36, .ref m37, .ref m38, .int 0, .int 0, .ref m41, .ref m42, .ref m43, .ref m44, .int 0, .int 0, .ref m47, .ref m48, .ref m49, .ref m50, .ref m51, .ref m52, .ref m53, .ref m54])), (m11, .inl (cI, 2, .inl (fun _ => 0)))] := hD
  subst h_2_r
  refine lv_if_eq (tgt := 23) hx hb d_Mo_parted_5 (by decide) (fun c_3 => ?_) (fun c_3 => absurd (by decide +kernel) c_3)
  refine lv_iconst (v := (-1)) hx hb d_Mo_parted_23 (by decide +kernel) ?_
  exact nz_reti C0 (hP.sub (ws' := [(m0_, .inr (12, [.ref m0, .ref m1, .int 0, .int 0, .int 0, .int (-1), .int 0, .int 0, .int 0, .int 0, .long 0, .ref m11, .ref m12, .ref m13, .ref m14, .ref m15, .ref m16, .ref m17, .ref m18, .ref m19, .ref m20, .ref m21, .ref m22, .ref m23, .ref m24, .ref m25, .ref m26, .ref m27, .ref m28, .ref m29, .ref m30, .ref m31, .ref m32, .ref m33, .ref m34, .ref m35, .ref m36, .ref m37, .ref m38, .int 0, .int 0, .ref m41, .ref m42, .ref m43, .ref m44, .int 0, .int 0, .ref m47, .ref m48, .ref m49, .ref m50, .ref m51, .ref m52, .ref m53, .ref m54])), (m11, .inl (cI, 2, .inl (fun _ => 0)))]) [0, 1] rfl) (hD.sub (ws' := [(m0_, .inr (12, [.ref m0, .ref m1, .int 0, .int 0, .int 0, .int (-1), .int 0, .int 0, .int 0, .int 0, .long 0, .ref m11, .ref m12, .ref m13, .ref m14, .ref m15, .ref m16, .ref m17, .ref m18, .ref m19, .ref m20, .ref m21, .ref m22, .ref m23, .ref m24, .ref m25, .ref m26, .ref m27, .ref m28, .ref m29, .ref m30, .ref m31, .ref m32, .ref m33, .ref m34, .ref m35, .ref m36, .ref m37, .ref m38, .int 0, .int 0, .ref m41, .ref m42, .ref m43, .ref m44, .int 0, .int 0, .ref m47, .ref m48, .ref m49, .ref m50, .ref m51, .ref m52, .ref m53, .ref m54])), (m11, .inl (cI, 2, .inl (fun _ => 0)))]) [0, 1] (by decide) rfl) hS ⟨rfl, rfl⟩ d_Mo_parted_24
set_option maxHeartbeats 4000000 in
set_option maxRecDepth 100000 in
theorem c_Mo_changes (l : Launch) (D : va_G) (cB cI cJ : ClassId) (m0_ : Nat) (p0 : Int32) (p1 : Int32) (p2 : Int32) (p3 : Int32) (p4 : Int32) (m0 : Nat) (m1 : Nat) (m11 : Nat) (m12 : Nat) (m13 : Nat) (m14 : Nat) (m15 : Nat) (m16 : Nat) (m17 : Nat) (m18 : Nat) (m19 : Nat) (m20 : Nat) (m21 : Nat) (m22 : Nat) (m23 : Nat) (m24 : Nat) (m25 : Nat) (m26 : Nat) (m27 : Nat) (m28 : Nat) (m29 : Nat) (m30 : Nat) (m31 : Nat) (m32 : Nat) (m33 : Nat) (m34 : Nat) (m35 : Nat) (m36 : Nat) (m37 : Nat) (m38 : Nat) (m41 : Nat) (m42 : Nat) (m43 : Nat) (m44 : Nat) (m47 : Nat) (m48 : Nat) (m49 : Nat) (m50 : Nat) (m51 : Nat) (m52 : Nat) (m53 : Nat) (m54 : Nat) : nz_Ci l D cB cI cJ nz_x0 y_Mo_changes b_Mo_changes 6 (some .int) { frames := 2, cells := 0, slots := 0, locals := 43 } [.ref m0_, .int p0, .int p1, .int p2, .int p3, .int p4] [(m0_, .inr (12, [.ref m0, .ref m1, .int 0, .int 0, .int 0, .int (-1), .int 0, .int 0, .int 0, .int 0, .long 0, .ref m11, .ref m12, .ref m13, .ref m14, .ref m15, .ref m16, .ref m17, .ref m18, .ref m19, .ref m20, .ref m21, .ref m22, .ref m23, .ref m24, .ref m25, .ref m26, .ref m27, .ref m28, .ref m29, .ref m30, .ref m31, .ref m32, .ref m33, .ref m34, .ref m35, .ref m36, .ref m37, .ref m38, .int 0, .int 0, .ref m41, .ref m42, .ref m43, .ref m44, .int 0, .int 0, .ref m47, .ref m48, .ref m49, .ref m50, .ref m51, .ref m52, .ref m53, .ref m54])), (m11, .inl (cI, 2, .inl (fun _ => 0)))] (fun r w => r = (-1) ∧ w = [(m0_, .inr (12, [.ref m0, .ref m1, .int 0, .int 0, .int 0, .int (-1), .int 0, .int 0, .int 0, .int 0, .long 0, .ref m11, .ref m12, .ref m13, .ref m14, .ref m15, .ref m16, .ref m17, .ref m18, .ref m19, .ref m20, .ref m21, .ref m22, .ref m23, .ref m24, .ref m25, .ref m26, .ref m27, .ref m28, .ref m29, .ref m30, .ref m31, .ref m32, .ref m33, .ref m34, .ref m35, .ref m36, .ref m37, .ref m38, .int 0, .int 0, .ref m41, .ref m42, .ref m43, .ref m44, .int 0, .int 0, .ref m47, .ref m48, .ref m49, .ref m50, .ref m51, .ref m52, .ref m53, .ref m54])), (m11, .inl (cI, 2, .inl (fun _ => 0)))]) := by
  refine nz_Ci.mk (by decide) (Nat.le_of_ble_eq_true rfl) ?_
  intro p e s m below meth c A ls C0 hnm hP hD hS hA hX hl
  have C0 : nz_Cx p s m _ meth c b_Mo_changes 6 (some .int) R_Mo D cB cI cJ := C0
  obtain ⟨hx, hb, hr, hml, hown, hts, hlk, hK⟩ := id C0
  have hl : lv_has ls 6 [(0, .ref m0_), (1, .int p0), (2, .int p1), (3, .int p2), (4, .int p3), (5, .int p4)] := hl
  refine lv_aload_n hx hb d_Mo_changes_0 rfl (lv_at hl 0 rfl) ?_
  refine lv_iload_n hx hb d_Mo_changes_1 rfl (lv_at hl 1 rfl) ?_
  refine nz_calVi (As := [.int p0]) (rest := []) C0 (c_Mo_isPlace l D cB cI cJ m0_ p0 m0 m1 m11 m12 m13 m14 m15 m16 m17 m18 m19 m20 m21 m22 m23 m24 m25 m26 m27 m28 m29 m30 m31 m32 m33 m34 m35 m36 m37 m38 m41 m42 m43 m44 m47 m48 m49 m50 m51 m52 m53 m54) g_Mo_402 rfl nz_xb0 (by decide) hl.1 hP hD hS hA [0, 1] [] rfl (wr := []) rfl (by decide) (by decide) (by decide) rfl rfl (fun _ _ _ => trivial) rfl (by decide) d_Mo_changes_2 (by decide) (fun r_1 u H locs h_2 hP hD hS => ?_)
  obtain ⟨h_2_r, rfl⟩ := h_2
  have hP : va_P D nz_cl [(m0_, .inr (12, [.ref m0, .ref m1, .int 0, .int 0, .int 0, .int (-1), .int 0, .int 0, .int 0, .int 0, .long 0, .ref m11, .ref m12, .ref m13, .ref m14, .ref m15, .ref m16, .ref m17, .ref m18, .ref m19, .ref m20, .ref m21, .ref m22, .ref m23, .ref m24, .ref m25, .ref m26, .ref m27, .ref m28, .ref m29, .ref m30, .ref m31, .ref m32, .ref m33, .ref m34, .ref m35, .ref m36, .ref m37, .ref m38, .int 0, .int 0, .ref m41, .ref m42, .ref m43, .ref m44, .int 0, .int 0, .ref m47, .ref m48, .ref m49, .ref m50, .ref m51, .ref m52, .ref m53, .ref m54])), (m11, .inl (cI, 2, .inl (fun _ => 0)))] H := hP
  have hD : va_D A [(m0_, .inr (12, [.ref m0, .ref m1, .int 0, .int 0, .int 0, .int (-1), .int 0, .int 0, .int 0, .int 0, .long 0, .ref m11, .ref m12, .ref m13, .ref m14, .ref m15, .ref m16, .ref m17, .ref m18, .ref m19, .ref m20, .ref m21, .ref m22, .ref m23, .ref m24, .ref m25, .ref m26, .ref m27, .ref m28, .ref m29, .ref m30, .ref m31, .ref m32, .ref m33, .ref m34, .ref m35, .ref m36, .ref m37, .ref m38, .int 0, .int 0, .ref m41, .ref m42, .ref m43, .ref m44, .int 0, .int 0, .ref m47, .ref m48, .ref m49, .ref m50, .ref m51, .ref m52, .ref m53, .ref m54])), (m11, .inl (cI, 2, .inl (fun _ => 0)))] := hD
  subst h_2_r
  refine lv_if_eq (tgt := 25) hx hb d_Mo_changes_5 (by decide) (fun c_3 => ?_) (fun c_3 => absurd (by decide +kernel) c_3)
  refine lv_iconst (v := (-1)) hx hb d_Mo_changes_25 (by decide +kernel) ?_
  exact nz_reti C0 (hP.sub (ws' := [(m0_, .inr (12, [.ref m0, .ref m1, .int 0, .int 0, .int 0, .int (-1), .int 0, .int 0, .int 0, .int 0, .long 0, .ref m11, .ref m12, .ref m13, .ref m14, .ref m15, .ref m16, .ref m17, .ref m18, .ref m19, .ref m20, .ref m21, .ref m22, .ref m23, .ref m24, .ref m25, .ref m26, .ref m27, .ref m28, .ref m29, .ref m30, .ref m31, .ref m32, .ref m33, .ref m34, .ref m35, .ref m36, .ref m37, .ref m38, .int 0, .int 0, .ref m41, .ref m42, .ref m43, .ref m44, .int 0, .int 0, .ref m47, .ref m48, .ref m49, .ref m50, .ref m51, .ref m52, .ref m53, .ref m54])), (m11, .inl (cI, 2, .inl (fun _ => 0)))]) [0, 1] rfl) (hD.sub (ws' := [(m0_, .inr (12, [.ref m0, .ref m1, .int 0, .int 0, .int 0, .int (-1), .int 0, .int 0, .int 0, .int 0, .long 0, .ref m11, .ref m12, .ref m13, .ref m14, .ref m15, .ref m16, .ref m17, .ref m18, .ref m19, .ref m20, .ref m21, .ref m22, .ref m23, .ref m24, .ref m25, .ref m26, .ref m27, .ref m28, .ref m29, .ref m30, .ref m31, .ref m32, .ref m33, .ref m34, .ref m35, .ref m36, .ref m37, .ref m38, .int 0, .int 0, .ref m41, .ref m42, .ref m43, .ref m44, .int 0, .int 0, .ref m47, .ref m48, .ref m49, .ref m50, .ref m51, .ref m52, .ref m53, .ref m54])), (m11, .inl (cI, 2, .inl (fun _ => 0)))]) [0, 1] (by decide) rfl) hS ⟨rfl, rfl⟩ d_Mo_changes_26
set_option maxHeartbeats 4000000 in
set_option maxRecDepth 100000 in
theorem c_Mo_renewed (l : Launch) (D : va_G) (cB cI cJ : ClassId) (m0_ : Nat) (p0 : Int32) (p1 : Int32) (p2 : Int32) (p3 : Int32) (m0 : Nat) (m1 : Nat) (m11 : Nat) (m12 : Nat) (m13 : Nat) (m14 : Nat) (m15 : Nat) (m16 : Nat) (m17 : Nat) (m18 : Nat) (m19 : Nat) (m20 : Nat) (m21 : Nat) (m22 : Nat) (m23 : Nat) (m24 : Nat) (m25 : Nat) (m26 : Nat) (m27 : Nat) (m28 : Nat) (m29 : Nat) (m30 : Nat) (m31 : Nat) (m32 : Nat) (m33 : Nat) (m34 : Nat) (m35 : Nat) (m36 : Nat) (m37 : Nat) (m38 : Nat) (m41 : Nat) (m42 : Nat) (m43 : Nat) (m44 : Nat) (m47 : Nat) (m48 : Nat) (m49 : Nat) (m50 : Nat) (m51 : Nat) (m52 : Nat) (m53 : Nat) (m54 : Nat) : nz_Ci l D cB cI cJ nz_x0 y_Mo_renewed b_Mo_renewed 9 (some .int) { frames := 2, cells := 0, slots := 0, locals := 43 } [.ref m0_, .int p0, .int p1, .int p2, .int p3] [(m0_, .inr (12, [.ref m0, .ref m1, .int 0, .int 0, .int 0, .int (-1), .int 0, .int 0, .int 0, .int 0, .long 0, .ref m11, .ref m12, .ref m13, .ref m14, .ref m15, .ref m16, .ref m17, .ref m18, .ref m19, .ref m20, .ref m21, .ref m22, .ref m23, .ref m24, .ref m25, .ref m26, .ref m27, .ref m28, .ref m29, .ref m30, .ref m31, .ref m32, .ref m33, .ref m34, .ref m35, .ref m36, .ref m37, .ref m38, .int 0, .int 0, .ref m41, .ref m42, .ref m43, .ref m44, .int 0, .int 0, .ref m47, .ref m48, .ref m49, .ref m50, .ref m51, .ref m52, .ref m53, .ref m54])), (m11, .inl (cI, 2, .inl (fun _ => 0)))] (fun r w => r = (-1) ∧ w = [(m0_, .inr (12, [.ref m0, .ref m1, .int 0, .int 0, .int 0, .int (-1), .int 0, .int 0, .int 0, .int 0, .long 0, .ref m11, .ref m12, .ref m13, .ref m14, .ref m15, .ref m16, .ref m17, .ref m18, .ref m19, .ref m20, .ref m21, .ref m22, .ref m23, .ref m24, .ref m25, .ref m26, .ref m27, .ref m28, .ref m29, .ref m30, .ref m31, .ref m32, .ref m33, .ref m34, .ref m35, .ref m36, .ref m37, .ref m38, .int 0, .int 0, .ref m41, .ref m42, .ref m43, .ref m44, .int 0, .int 0, .ref m47, .ref m48, .ref m49, .ref m50, .ref m51, .ref m52, .ref m53, .ref m54])), (m11, .inl (cI, 2, .inl (fun _ => 0)))]) := by
  refine nz_Ci.mk (by decide) (Nat.le_of_ble_eq_true rfl) ?_
  intro p e s m below meth c A ls C0 hnm hP hD hS hA hX hl
  have C0 : nz_Cx p s m _ meth c b_Mo_renewed 9 (some .int) R_Mo D cB cI cJ := C0
  obtain ⟨hx, hb, hr, hml, hown, hts, hlk, hK⟩ := id C0
  have hl : lv_has ls 9 [(0, .ref m0_), (1, .int p0), (2, .int p1), (3, .int p2), (4, .int p3)] := hl
  refine lv_aload_n hx hb d_Mo_renewed_0 rfl (lv_at hl 0 rfl) ?_
  refine lv_iload_n hx hb d_Mo_renewed_1 rfl (lv_at hl 1 rfl) ?_
  refine nz_calVi (As := [.int p0]) (rest := []) C0 (c_Mo_isPlace l D cB cI cJ m0_ p0 m0 m1 m11 m12 m13 m14 m15 m16 m17 m18 m19 m20 m21 m22 m23 m24 m25 m26 m27 m28 m29 m30 m31 m32 m33 m34 m35 m36 m37 m38 m41 m42 m43 m44 m47 m48 m49 m50 m51 m52 m53 m54) g_Mo_402 rfl nz_xb0 (by decide) hl.1 hP hD hS hA [0, 1] [] rfl (wr := []) rfl (by decide) (by decide) (by decide) rfl rfl (fun _ _ _ => trivial) rfl (by decide) d_Mo_renewed_2 (by decide) (fun r_1 u H locs h_2 hP hD hS => ?_)
  obtain ⟨h_2_r, rfl⟩ := h_2
  have hP : va_P D nz_cl [(m0_, .inr (12, [.ref m0, .ref m1, .int 0, .int 0, .int 0, .int (-1), .int 0, .int 0, .int 0, .int 0, .long 0, .ref m11, .ref m12, .ref m13, .ref m14, .ref m15, .ref m16, .ref m17, .ref m18, .ref m19, .ref m20, .ref m21, .ref m22, .ref m23, .ref m24, .ref m25, .ref m26, .ref m27, .ref m28, .ref m29, .ref m30, .ref m31, .ref m32, .ref m33, .ref m34, .ref m35, .ref m36, .ref m37, .ref m38, .int 0, .int 0, .ref m41, .ref m42, .ref m43, .ref m44, .int 0, .int 0, .ref m47, .ref m48, .ref m49, .ref m50, .ref m51, .ref m52, .ref m53, .ref m54])), (m11, .inl (cI, 2, .inl (fun _ => 0)))] H := hP
  have hD : va_D A [(m0_, .inr (12, [.ref m0, .ref m1, .int 0, .int 0, .int 0, .int (-1), .int 0, .int 0, .int 0, .int 0, .long 0, .ref m11, .ref m12, .ref m13, .ref m14, .ref m15, .ref m16, .ref m17, .ref m18, .ref m19, .ref m20, .ref m21, .ref m22, .ref m23, .ref m24, .ref m25, .ref m26, .ref m27, .ref m28, .ref m29, .ref m30, .ref m31, .ref m32, .ref m33, .ref m34, .ref m35, .ref m36, .ref m37, .ref m38, .int 0, .int 0, .ref m41, .ref m42, .ref m43, .ref m44, .int 0, .int 0, .ref m47, .ref m48, .ref m49, .ref m50, .ref m51, .ref m52, .ref m53, .ref m54])), (m11, .inl (cI, 2, .inl (fun _ => 0)))] := hD
  subst h_2_r
  refine lv_if_eq (tgt := 16) hx hb d_Mo_renewed_5 (by decide) (fun c_3 => ?_) (fun c_3 => absurd (by decide +kernel) c_3)
  refine lv_iconst (v := (-1)) hx hb d_Mo_renewed_16 (by decide +kernel) ?_
  exact nz_reti C0 (hP.sub (ws' := [(m0_, .inr (12, [.ref m0, .ref m1, .int 0, .int 0, .int 0, .int (-1), .int 0, .int 0, .int 0, .int 0, .long 0, .ref m11, .ref m12, .ref m13, .ref m14, .ref m15, .ref m16, .ref m17, .ref m18, .ref m19, .ref m20, .ref m21, .ref m22, .ref m23, .ref m24, .ref m25, .ref m26, .ref m27, .ref m28, .ref m29, .ref m30, .ref m31, .ref m32, .ref m33, .ref m34, .ref m35, .ref m36, .ref m37, .ref m38, .int 0, .int 0, .ref m41, .ref m42, .ref m43, .ref m44, .int 0, .int 0, .ref m47, .ref m48, .ref m49, .ref m50, .ref m51, .ref m52, .ref m53, .ref m54])), (m11, .inl (cI, 2, .inl (fun _ => 0)))]) [0, 1] rfl) (hD.sub (ws' := [(m0_, .inr (12, [.ref m0, .ref m1, .int 0, .int 0, .int 0, .int (-1), .int 0, .int 0, .int 0, .int 0, .long 0, .ref m11, .ref m12, .ref m13, .ref m14, .ref m15, .ref m16, .ref m17, .ref m18, .ref m19, .ref m20, .ref m21, .ref m22, .ref m23, .ref m24, .ref m25, .ref m26, .ref m27, .ref m28, .ref m29, .ref m30, .ref m31, .ref m32, .ref m33, .ref m34, .ref m35, .ref m36, .ref m37, .ref m38, .int 0, .int 0, .ref m41, .ref m42, .ref m43, .ref m44, .int 0, .int 0, .ref m47, .ref m48, .ref m49, .ref m50, .ref m51, .ref m52, .ref m53, .ref m54])), (m11, .inl (cI, 2, .inl (fun _ => 0)))]) [0, 1] (by decide) rfl) hS ⟨rfl, rfl⟩ d_Mo_renewed_17
set_option maxHeartbeats 4000000 in
set_option maxRecDepth 100000 in
theorem c_Mo_tell (l : Launch) (D : va_G) (cB cI cJ : ClassId) (m0_ : Nat) (p0 : Int32) (p1 : Int32) (p2 : Int32) (p3 : Int32) (p4 : Int32) (m0 : Nat) (m1 : Nat) (m11 : Nat) (m12 : Nat) (m13 : Nat) (m14 : Nat) (m15 : Nat) (m16 : Nat) (m17 : Nat) (m18 : Nat) (m19 : Nat) (m20 : Nat) (m21 : Nat) (m22 : Nat) (m23 : Nat) (m24 : Nat) (m25 : Nat) (m26 : Nat) (m27 : Nat) (m28 : Nat) (m29 : Nat) (m30 : Nat) (m31 : Nat) (m32 : Nat) (m33 : Nat) (m34 : Nat) (m35 : Nat) (m36 : Nat) (m37 : Nat) (m38 : Nat) (m41 : Nat) (m42 : Nat) (m43 : Nat) (m44 : Nat) (m47 : Nat) (m48 : Nat) (m49 : Nat) (m50 : Nat) (m51 : Nat) (m52 : Nat) (m53 : Nat) (m54 : Nat) : nz_Ci l D cB cI cJ nz_x0 y_Mo_tell b_Mo_tell 6 (some .int) { frames := 2, cells := 0, slots := 0, locals := 43 } [.ref m0_, .int p0, .int p1, .int p2, .int p3, .int p4] [(m0_, .inr (12, [.ref m0, .ref m1, .int 0, .int 0, .int 0, .int (-1), .int 0, .int 0, .int 0, .int 0, .long 0, .ref m11, .ref m12, .ref m13, .ref m14, .ref m15, .ref m16, .ref m17, .ref m18, .ref m19, .ref m20, .ref m21, .ref m22, .ref m23, .ref m24, .ref m25, .ref m26, .ref m27, .ref m28, .ref m29, .ref m30, .ref m31, .ref m32, .ref m33, .ref m34, .ref m35, .ref m36, .ref m37, .ref m38, .int 0, .int 0, .ref m41, .ref m42, .ref m43, .ref m44, .int 0, .int 0, .ref m47, .ref m48, .ref m49, .ref m50, .ref m51, .ref m52, .ref m53, .ref m54])), (m12, .inl (cI, 2, .inl (fun _ => 0)))] (fun r w => r = (-1) ∧ w = [(m0_, .inr (12, [.ref m0, .ref m1, .int 0, .int 0, .int 0, .int (-1), .int 0, .int 0, .int 0, .int 0, .long 0, .ref m11, .ref m12, .ref m13, .ref m14, .ref m15, .ref m16, .ref m17, .ref m18, .ref m19, .ref m20, .ref m21, .ref m22, .ref m23, .ref m24, .ref m25, .ref m26, .ref m27, .ref m28, .ref m29, .ref m30, .ref m31, .ref m32, .ref m33, .ref m34, .ref m35, .ref m36, .ref m37, .ref m38, .int 0, .int 0, .ref m41, .ref m42, .ref m43, .ref m44, .int 0, .int 0, .ref m47, .ref m48, .ref m49, .ref m50, .ref m51, .ref m52, .ref m53, .ref m54])), (m12, .inl (cI, 2, .inl (fun _ => 0)))]) := by
  refine nz_Ci.mk (by decide) (Nat.le_of_ble_eq_true rfl) ?_
  intro p e s m below meth c A ls C0 hnm hP hD hS hA hX hl
  have C0 : nz_Cx p s m _ meth c b_Mo_tell 6 (some .int) R_Mo D cB cI cJ := C0
  obtain ⟨hx, hb, hr, hml, hown, hts, hlk, hK⟩ := id C0
  have hl : lv_has ls 6 [(0, .ref m0_), (1, .int p0), (2, .int p1), (3, .int p2), (4, .int p3), (5, .int p4)] := hl
  refine lv_aload_n hx hb d_Mo_tell_0 rfl (lv_at hl 0 rfl) ?_
  refine lv_iload_n hx hb d_Mo_tell_1 rfl (lv_at hl 3 rfl) ?_
  refine nz_calVi (As := [.int p2]) (rest := []) C0 (c_Mo_isMeaning l D cB cI cJ m0_ p2 m0 m1 m11 m12 m13 m14 m15 m16 m17 m18 m19 m20 m21 m22 m23 m24 m25 m26 m27 m28 m29 m30 m31 m32 m33 m34 m35 m36 m37 m38 m41 m42 m43 m44 m47 m48 m49 m50 m51 m52 m53 m54) g_Mo_388 rfl nz_xb0 (by decide) hl.1 hP hD hS hA [0, 1] [] rfl (wr := []) rfl (by decide) (by decide) (by decide) rfl rfl (fun _ _ _ => trivial) rfl (by decide) d_Mo_tell_2 (by decide) (fun r_1 u H locs h_2 hP hD hS => ?_)
  obtain ⟨h_2_r, rfl⟩ := h_2
  have hP : va_P D nz_cl [(m0_, .inr (12, [.ref m0, .ref m1, .int 0, .int 0, .int 0, .int (-1), .int 0, .int 0, .int 0, .int 0, .long 0, .ref m11, .ref m12, .ref m13, .ref m14, .ref m15, .ref m16, .ref m17, .ref m18, .ref m19, .ref m20, .ref m21, .ref m22, .ref m23, .ref m24, .ref m25, .ref m26, .ref m27, .ref m28, .ref m29, .ref m30, .ref m31, .ref m32, .ref m33, .ref m34, .ref m35, .ref m36, .ref m37, .ref m38, .int 0, .int 0, .ref m41, .ref m42, .ref m43, .ref m44, .int 0, .int 0, .ref m47, .ref m48, .ref m49, .ref m50, .ref m51, .ref m52, .ref m53, .ref m54])), (m12, .inl (cI, 2, .inl (fun _ => 0)))] H := hP
  have hD : va_D A [(m0_, .inr (12, [.ref m0, .ref m1, .int 0, .int 0, .int 0, .int (-1), .int 0, .int 0, .int 0, .int 0, .long 0, .ref m11, .ref m12, .ref m13, .ref m14, .ref m15, .ref m16, .ref m17, .ref m18, .ref m19, .ref m20, .ref m21, .ref m22, .ref m23, .ref m24, .ref m25, .ref m26, .ref m27, .ref m28, .ref m29, .ref m30, .ref m31, .ref m32, .ref m33, .ref m34, .ref m35, .ref m36, .ref m37, .ref m38, .int 0, .int 0, .ref m41, .ref m42, .ref m43, .ref m44, .int 0, .int 0, .ref m47, .ref m48, .ref m49, .ref m50, .ref m51, .ref m52, .ref m53, .ref m54])), (m12, .inl (cI, 2, .inl (fun _ => 0)))] := hD
  subst h_2_r
  refine lv_if_eq (tgt := 33) hx hb d_Mo_tell_5 (by decide) (fun c_3 => ?_) (fun c_3 => absurd (by decide +kernel) c_3)
  refine lv_iconst (v := (-1)) hx hb d_Mo_tell_33 (by decide +kernel) ?_
  exact nz_reti C0 (hP.sub (ws' := [(m0_, .inr (12, [.ref m0, .ref m1, .int 0, .int 0, .int 0, .int (-1), .int 0, .int 0, .int 0, .int 0, .long 0, .ref m11, .ref m12, .ref m13, .ref m14, .ref m15, .ref m16, .ref m17, .ref m18, .ref m19, .ref m20, .ref m21, .ref m22, .ref m23, .ref m24, .ref m25, .ref m26, .ref m27, .ref m28, .ref m29, .ref m30, .ref m31, .ref m32, .ref m33, .ref m34, .ref m35, .ref m36, .ref m37, .ref m38, .int 0, .int 0, .ref m41, .ref m42, .ref m43, .ref m44, .int 0, .int 0, .ref m47, .ref m48, .ref m49, .ref m50, .ref m51, .ref m52, .ref m53, .ref m54])), (m12, .inl (cI, 2, .inl (fun _ => 0)))]) [0, 1] rfl) (hD.sub (ws' := [(m0_, .inr (12, [.ref m0, .ref m1, .int 0, .int 0, .int 0, .int (-1), .int 0, .int 0, .int 0, .int 0, .long 0, .ref m11, .ref m12, .ref m13, .ref m14, .ref m15, .ref m16, .ref m17, .ref m18, .ref m19, .ref m20, .ref m21, .ref m22, .ref m23, .ref m24, .ref m25, .ref m26, .ref m27, .ref m28, .ref m29, .ref m30, .ref m31, .ref m32, .ref m33, .ref m34, .ref m35, .ref m36, .ref m37, .ref m38, .int 0, .int 0, .ref m41, .ref m42, .ref m43, .ref m44, .int 0, .int 0, .ref m47, .ref m48, .ref m49, .ref m50, .ref m51, .ref m52, .ref m53, .ref m54])), (m12, .inl (cI, 2, .inl (fun _ => 0)))]) [0, 1] (by decide) rfl) hS ⟨rfl, rfl⟩ d_Mo_tell_34
set_option maxHeartbeats 4000000 in
set_option maxRecDepth 100000 in
theorem c_Mo_told (l : Launch) (D : va_G) (cB cI cJ : ClassId) (m0_ : Nat) (p0 : Int32) (p1 : Int32) (p2 : Int32) (p3 : Int32) (p4 : Int32) (p5 : Int32) (m0 : Nat) (m1 : Nat) (m11 : Nat) (m12 : Nat) (m13 : Nat) (m14 : Nat) (m15 : Nat) (m16 : Nat) (m17 : Nat) (m18 : Nat) (m19 : Nat) (m20 : Nat) (m21 : Nat) (m22 : Nat) (m23 : Nat) (m24 : Nat) (m25 : Nat) (m26 : Nat) (m27 : Nat) (m28 : Nat) (m29 : Nat) (m30 : Nat) (m31 : Nat) (m32 : Nat) (m33 : Nat) (m34 : Nat) (m35 : Nat) (m36 : Nat) (m37 : Nat) (m38 : Nat) (m41 : Nat) (m42 : Nat) (m43 : Nat) (m44 : Nat) (m47 : Nat) (m48 : Nat) (m49 : Nat) (m50 : Nat) (m51 : Nat) (m52 : Nat) (m53 : Nat) (m54 : Nat) : nz_Ci l D cB cI cJ nz_x0 y_Mo_told b_Mo_told 8 (some .int) { frames := 3, cells := 0, slots := 0, locals := 68 } [.ref m0_, .int p0, .int p1, .int p2, .int p3, .int p4, .int p5] [(m0_, .inr (12, [.ref m0, .ref m1, .int 0, .int 0, .int 0, .int (-1), .int 0, .int 0, .int 0, .int 0, .long 0, .ref m11, .ref m12, .ref m13, .ref m14, .ref m15, .ref m16, .ref m17, .ref m18, .ref m19, .ref m20, .ref m21, .ref m22, .ref m23, .ref m24, .ref m25, .ref m26, .ref m27, .ref m28, .ref m29, .ref m30, .ref m31, .ref m32, .ref m33, .ref m34, .ref m35, .ref m36, .ref m37, .ref m38, .int 0, .int 0, .ref m41, .ref m42, .ref m43, .ref m44, .int 0, .int 0, .ref m47, .ref m48, .ref m49, .ref m50, .ref m51, .ref m52, .ref m53, .ref m54])), (m12, .inl (cI, 2, .inl (fun _ => 0)))] (fun r w => r = (-1) ∧ w = [(m0_, .inr (12, [.ref m0, .ref m1, .int 0, .int 0, .int 0, .int (-1), .int 0, .int 0, .int 0, .int 0, .long 0, .ref m11, .ref m12, .ref m13, .ref m14, .ref m15, .ref m16, .ref m17, .ref m18, .ref m19, .ref m20, .ref m21, .ref m22, .ref m23, .ref m24, .ref m25, .ref m26, .ref m27, .ref m28, .ref m29, .ref m30, .ref m31, .ref m32, .ref m33, .ref m34, .ref m35, .ref m36, .ref m37, .ref m38, .int 0, .int 0, .ref m41, .ref m42, .ref m43, .ref m44, .int 0, .int 0, .ref m47, .ref m48, .ref m49, .ref m50, .ref m51, .ref m52, .ref m53, .ref m54])), (m12, .inl (cI, 2, .inl (fun _ => 0)))]) := by
  refine nz_Ci.mk (by decide) (Nat.le_of_ble_eq_true rfl) ?_
  intro p e s m below meth c A ls C0 hnm hP hD hS hA hX hl
  have C0 : nz_Cx p s m _ meth c b_Mo_told 8 (some .int) R_Mo D cB cI cJ := C0
  obtain ⟨hx, hb, hr, hml, hown, hts, hlk, hK⟩ := id C0
  have hl : lv_has ls 8 [(0, .ref m0_), (1, .int p0), (2, .int p1), (3, .int p2), (4, .int p3), (5, .int p4), (6, .int p5)] := hl
  refine lv_aload_n hx hb d_Mo_told_0 rfl (lv_at hl 0 rfl) ?_
  refine lv_iload_n hx hb d_Mo_told_1 rfl (lv_at hl 1 rfl) ?_
  refine lv_iload_n hx hb d_Mo_told_2 rfl (lv_at hl 2 rfl) ?_
  refine lv_iload_n hx hb d_Mo_told_3 rfl (lv_at hl 3 rfl) ?_
  refine lv_iload hx hb d_Mo_told_4 (lv_at hl 4 rfl) ?_
  refine lv_iload hx hb d_Mo_told_6 (lv_at hl 6 rfl) ?_
  refine nz_calVi (As := [.int p0, .int p1, .int p2, .int p3, .int p5]) (rest := []) C0 (c_Mo_tell l D cB cI cJ m0_ p0 p1 p2 p3 p5 m0 m1 m11 m12 m13 m14 m15 m16 m17 m18 m19 m20 m21 m22 m23 m24 m25 m26 m27 m28 m29 m30 m31 m32 m33 m34 m35 m36 m37 m38 m41 m42 m43 m44 m47 m48 m49 m50 m51 m52 m53 m54) g_Mo_423 rfl nz_xb0 (by decide) hl.1 hP hD hS hA [0, 1] [] rfl (wr := []) rfl (by decide) (by decide) (by decide) rfl rfl (fun _ _ _ => trivial) rfl (by decide) d_Mo_told_8 (by decide) (fun r_1 u H locs h_2 hP hD hS => ?_)
  obtain ⟨h_2_r, rfl⟩ := h_2
  have hP : va_P D nz_cl [(m0_, .inr (12, [.ref m0, .ref m1, .int 0, .int 0, .int 0, .int (-1), .int 0, .int 0, .int 0, .int 0, .long 0, .ref m11, .ref m12, .ref m13, .ref m14, .ref m15, .ref m16, .ref m17, .ref m18, .ref m19, .ref m20, .ref m21, .ref m22, .ref m23, .ref m24, .ref m25, .ref m26, .ref m27, .ref m28, .ref m29, .ref m30, .ref m31, .ref m32, .ref m33, .ref m34, .ref m35, .ref m36, .ref m37, .ref m38, .int 0, .int 0, .ref m41, .ref m42, .ref m43, .ref m44, .int 0, .int 0, .ref m47, .ref m48, .ref m49, .ref m50, .ref m51, .ref m52, .ref m53, .ref m54])), (m12, .inl (cI, 2, .inl (fun _ => 0)))] H := hP
  have hD : va_D A [(m0_, .inr (12, [.ref m0, .ref m1, .int 0, .int 0, .int 0, .int (-1), .int 0, .int 0, .int 0, .int 0, .long 0, .ref m11, .ref m12, .ref m13, .ref m14, .ref m15, .ref m16, .ref m17, .ref m18, .ref m19, .ref m20, .ref m21, .ref m22, .ref m23, .ref m24, .ref m25, .ref m26, .ref m27, .ref m28, .ref m29, .ref m30, .ref m31, .ref m32, .ref m33, .ref m34, .ref m35, .ref m36, .ref m37, .ref m38, .int 0, .int 0, .ref m41, .ref m42, .ref m43, .ref m44, .int 0, .int 0, .ref m47, .ref m48, .ref m49, .ref m50, .ref m51, .ref m52, .ref m53, .ref m54])), (m12, .inl (cI, 2, .inl (fun _ => 0)))] := hD
  subst h_2_r
  refine lv_istore (lv' := [(7, .int (-1)), (0, .ref m0_), (1, .int p0), (2, .int p1), (3, .int p2), (4, .int p3), (5, .int p4), (6, .int p5)]) hx hb d_Mo_told_11 hl (by decide) rfl (fun ls hl => ?_)
  refine lv_iload hx hb d_Mo_told_13 (lv_at hl 6 rfl) ?_
  refine lv_iconst (v := 0) hx hb d_Mo_told_15 (by decide +kernel) ?_
  refine lv_iload hx hb d_Mo_told_16 (lv_at hl 0 rfl) ?_
  refine lv_iconst (v := 1) hx hb d_Mo_told_18 (by decide +kernel) ?_
  refine lv_isub hx hb d_Mo_told_19 ?_
  refine nz_ctopi (v := (-2)) (by decide +kernel) ?_
  refine nz_calSi (As := [.int p4, .int 0, .int (-2)]) (rest := []) C0 (c_Mo_isIn_m2 l D cB cI cJ p4) g_Mo_305 rfl nz_xb0 (by decide) hl.1 hP hD hS hA [] [0, 1] rfl (wr := [(m0_, .inr (12, [.ref m0, .ref m1, .int 0, .int 0, .int 0, .int (-1), .int 0, .int 0, .int 0, .int 0, .long 0, .ref m11, .ref m12, .ref m13, .ref m14, .ref m15, .ref m16, .ref m17, .ref m18, .ref m19, .ref m20, .ref m21, .ref m22, .ref m23, .ref m24, .ref m25, .ref m26, .ref m27, .ref m28, .ref m29, .ref m30, .ref m31, .ref m32, .ref m33, .ref m34, .ref m35, .ref m36, .ref m37, .ref m38, .int 0, .int 0, .ref m41, .ref m42, .ref m43, .ref m44, .int 0, .int 0, .ref m47, .ref m48, .ref m49, .ref m50, .ref m51, .ref m52, .ref m53, .ref m54])), (m12, .inl (cI, 2, .inl (fun _ => 0)))]) rfl (by decide) (by decide) (by decide) (fun _ _ _ => trivial) rfl (by decide) d_Mo_told_20 (by decide) (fun r_3 u H locs h_4 hP hD hS => ?_)
  obtain ⟨h_4_r, rfl⟩ := h_4
  have hP : va_P D nz_cl [(m0_, .inr (12, [.ref m0, .ref m1, .int 0, .int 0, .int 0, .int (-1), .int 0, .int 0, .int 0, .int 0, .long 0, .ref m11, .ref m12, .ref m13, .ref m14, .ref m15, .ref m16, .ref m17, .ref m18, .ref m19, .ref m20, .ref m21, .ref m22, .ref m23, .ref m24, .ref m25, .ref m26, .ref m27, .ref m28, .ref m29, .ref m30, .ref m31, .ref m32, .ref m33, .ref m34, .ref m35, .ref m36, .ref m37, .ref m38, .int 0, .int 0, .ref m41, .ref m42, .ref m43, .ref m44, .int 0, .int 0, .ref m47, .ref m48, .ref m49, .ref m50, .ref m51, .ref m52, .ref m53, .ref m54])), (m12, .inl (cI, 2, .inl (fun _ => 0)))] H := hP
  have hD : va_D A [(m0_, .inr (12, [.ref m0, .ref m1, .int 0, .int 0, .int 0, .int (-1), .int 0, .int 0, .int 0, .int 0, .long 0, .ref m11, .ref m12, .ref m13, .ref m14, .ref m15, .ref m16, .ref m17, .ref m18, .ref m19, .ref m20, .ref m21, .ref m22, .ref m23, .ref m24, .ref m25, .ref m26, .ref m27, .ref m28, .ref m29, .ref m30, .ref m31, .ref m32, .ref m33, .ref m34, .ref m35, .ref m36, .ref m37, .ref m38, .int 0, .int 0, .ref m41, .ref m42, .ref m43, .ref m44, .int 0, .int 0, .ref m47, .ref m48, .ref m49, .ref m50, .ref m51, .ref m52, .ref m53, .ref m54])), (m12, .inl (cI, 2, .inl (fun _ => 0)))] := hD
  subst h_4_r
  refine lv_if_eq (tgt := 36) hx hb d_Mo_told_23 (by decide) (fun c_5 => ?_) (fun c_5 => absurd (by decide +kernel) c_5)
  refine lv_iconst (v := (-1)) hx hb d_Mo_told_36 (by decide +kernel) ?_
  exact nz_reti C0 (hP.sub (ws' := [(m0_, .inr (12, [.ref m0, .ref m1, .int 0, .int 0, .int 0, .int (-1), .int 0, .int 0, .int 0, .int 0, .long 0, .ref m11, .ref m12, .ref m13, .ref m14, .ref m15, .ref m16, .ref m17, .ref m18, .ref m19, .ref m20, .ref m21, .ref m22, .ref m23, .ref m24, .ref m25, .ref m26, .ref m27, .ref m28, .ref m29, .ref m30, .ref m31, .ref m32, .ref m33, .ref m34, .ref m35, .ref m36, .ref m37, .ref m38, .int 0, .int 0, .ref m41, .ref m42, .ref m43, .ref m44, .int 0, .int 0, .ref m47, .ref m48, .ref m49, .ref m50, .ref m51, .ref m52, .ref m53, .ref m54])), (m12, .inl (cI, 2, .inl (fun _ => 0)))]) [0, 1] rfl) (hD.sub (ws' := [(m0_, .inr (12, [.ref m0, .ref m1, .int 0, .int 0, .int 0, .int (-1), .int 0, .int 0, .int 0, .int 0, .long 0, .ref m11, .ref m12, .ref m13, .ref m14, .ref m15, .ref m16, .ref m17, .ref m18, .ref m19, .ref m20, .ref m21, .ref m22, .ref m23, .ref m24, .ref m25, .ref m26, .ref m27, .ref m28, .ref m29, .ref m30, .ref m31, .ref m32, .ref m33, .ref m34, .ref m35, .ref m36, .ref m37, .ref m38, .int 0, .int 0, .ref m41, .ref m42, .ref m43, .ref m44, .int 0, .int 0, .ref m47, .ref m48, .ref m49, .ref m50, .ref m51, .ref m52, .ref m53, .ref m54])), (m12, .inl (cI, 2, .inl (fun _ => 0)))]) [0, 1] (by decide) rfl) hS ⟨rfl, rfl⟩ d_Mo_told_37
set_option maxHeartbeats 4000000 in
set_option maxRecDepth 100000 in
theorem c_Mo_safe (l : Launch) (D : va_G) (cB cI cJ : ClassId) (m0_ : Nat) (p0 : Int32) (p1 : Int32) (m0 : Nat) (m1 : Nat) (m11 : Nat) (m12 : Nat) (m13 : Nat) (m14 : Nat) (m15 : Nat) (m16 : Nat) (m17 : Nat) (m18 : Nat) (m19 : Nat) (m20 : Nat) (m21 : Nat) (m22 : Nat) (m23 : Nat) (m24 : Nat) (m25 : Nat) (m26 : Nat) (m27 : Nat) (m28 : Nat) (m29 : Nat) (m30 : Nat) (m31 : Nat) (m32 : Nat) (m33 : Nat) (m34 : Nat) (m35 : Nat) (m36 : Nat) (m37 : Nat) (m38 : Nat) (m41 : Nat) (m42 : Nat) (m43 : Nat) (m44 : Nat) (m47 : Nat) (m48 : Nat) (m49 : Nat) (m50 : Nat) (m51 : Nat) (m52 : Nat) (m53 : Nat) (m54 : Nat) : nz_Ci l D cB cI cJ nz_x0 y_Mo_safe b_Mo_safe 4 (some .int) { frames := 2, cells := 0, slots := 0, locals := 43 } [.ref m0_, .int p0, .int p1] [(m0_, .inr (12, [.ref m0, .ref m1, .int 0, .int 0, .int 0, .int (-1), .int 0, .int 0, .int 0, .int 0, .long 0, .ref m11, .ref m12, .ref m13, .ref m14, .ref m15, .ref m16, .ref m17, .ref m18, .ref m19, .ref m20, .ref m21, .ref m22, .ref m23, .ref m24, .ref m25, .ref m26, .ref m27, .ref m28, .ref m29, .ref m30, .ref m31, .ref m32, .ref m33, .ref m34, .ref m35, .ref m36, .ref m37, .ref m38, .int 0, .int 0, .ref m41, .ref m42, .ref m43, .ref m44, .int 0, .int 0, .ref m47, .ref m48, .ref m49, .ref m50, .ref m51, .ref m52, .ref m53, .ref m54])), (m11, .inl (cI, 2, .inl (fun _ => 0)))] (fun r w => r = (-1) ∧ w = [(m0_, .inr (12, [.ref m0, .ref m1, .int 0, .int 0, .int 0, .int (-1), .int 0, .int 0, .int 0, .int 0, .long 0, .ref m11, .ref m12, .ref m13, .ref m14, .ref m15, .ref m16, .ref m17, .ref m18, .ref m19, .ref m20, .ref m21, .ref m22, .ref m23, .ref m24, .ref m25, .ref m26, .ref m27, .ref m28, .ref m29, .ref m30, .ref m31, .ref m32, .ref m33, .ref m34, .ref m35, .ref m36, .ref m37, .ref m38, .int 0, .int 0, .ref m41, .ref m42, .ref m43, .ref m44, .int 0, .int 0, .ref m47, .ref m48, .ref m49, .ref m50, .ref m51, .ref m52, .ref m53, .ref m54])), (m11, .inl (cI, 2, .inl (fun _ => 0)))]) := by
  refine nz_Ci.mk (by decide) (Nat.le_of_ble_eq_true rfl) ?_
  intro p e s m below meth c A ls C0 hnm hP hD hS hA hX hl
  have C0 : nz_Cx p s m _ meth c b_Mo_safe 4 (some .int) R_Mo D cB cI cJ := C0
  obtain ⟨hx, hb, hr, hml, hown, hts, hlk, hK⟩ := id C0
  have hl : lv_has ls 4 [(0, .ref m0_), (1, .int p0), (2, .int p1)] := hl
  refine lv_aload_n hx hb d_Mo_safe_0 rfl (lv_at hl 0 rfl) ?_
  refine lv_iload_n hx hb d_Mo_safe_1 rfl (lv_at hl 1 rfl) ?_
  refine nz_calVi (As := [.int p0]) (rest := []) C0 (c_Mo_isPlace l D cB cI cJ m0_ p0 m0 m1 m11 m12 m13 m14 m15 m16 m17 m18 m19 m20 m21 m22 m23 m24 m25 m26 m27 m28 m29 m30 m31 m32 m33 m34 m35 m36 m37 m38 m41 m42 m43 m44 m47 m48 m49 m50 m51 m52 m53 m54) g_Mo_402 rfl nz_xb0 (by decide) hl.1 hP hD hS hA [0, 1] [] rfl (wr := []) rfl (by decide) (by decide) (by decide) rfl rfl (fun _ _ _ => trivial) rfl (by decide) d_Mo_safe_2 (by decide) (fun r_1 u H locs h_2 hP hD hS => ?_)
  obtain ⟨h_2_r, rfl⟩ := h_2
  have hP : va_P D nz_cl [(m0_, .inr (12, [.ref m0, .ref m1, .int 0, .int 0, .int 0, .int (-1), .int 0, .int 0, .int 0, .int 0, .long 0, .ref m11, .ref m12, .ref m13, .ref m14, .ref m15, .ref m16, .ref m17, .ref m18, .ref m19, .ref m20, .ref m21, .ref m22, .ref m23, .ref m24, .ref m25, .ref m26, .ref m27, .ref m28, .ref m29, .ref m30, .ref m31, .ref m32, .ref m33, .ref m34, .ref m35, .ref m36, .ref m37, .ref m38, .int 0, .int 0, .ref m41, .ref m42, .ref m43, .ref m44, .int 0, .int 0, .ref m47, .ref m48, .ref m49, .ref m50, .ref m51, .ref m52, .ref m53, .ref m54])), (m11, .inl (cI, 2, .inl (fun _ => 0)))] H := hP
  have hD : va_D A [(m0_, .inr (12, [.ref m0, .ref m1, .int 0, .int 0, .int 0, .int (-1), .int 0, .int 0, .int 0, .int 0, .long 0, .ref m11, .ref m12, .ref m13, .ref m14, .ref m15, .ref m16, .ref m17, .ref m18, .ref m19, .ref m20, .ref m21, .ref m22, .ref m23, .ref m24, .ref m25, .ref m26, .ref m27, .ref m28, .ref m29, .ref m30, .ref m31, .ref m32, .ref m33, .ref m34, .ref m35, .ref m36, .ref m37, .ref m38, .int 0, .int 0, .ref m41, .ref m42, .ref m43, .ref m44, .int 0, .int 0, .ref m47, .ref m48, .ref m49, .ref m50, .ref m51, .ref m52, .ref m53, .ref m54])), (m11, .inl (cI, 2, .inl (fun _ => 0)))] := hD
  subst h_2_r
  refine lv_if_eq (tgt := 16) hx hb d_Mo_safe_5 (by decide) (fun c_3 => ?_) (fun c_3 => absurd (by decide +kernel) c_3)
  refine lv_iconst (v := (-1)) hx hb d_Mo_safe_16 (by decide +kernel) ?_
  exact nz_reti C0 (hP.sub (ws' := [(m0_, .inr (12, [.ref m0, .ref m1, .int 0, .int 0, .int 0, .int (-1), .int 0, .int 0, .int 0, .int 0, .long 0, .ref m11, .ref m12, .ref m13, .ref m14, .ref m15, .ref m16, .ref m17, .ref m18, .ref m19, .ref m20, .ref m21, .ref m22, .ref m23, .ref m24, .ref m25, .ref m26, .ref m27, .ref m28, .ref m29, .ref m30, .ref m31, .ref m32, .ref m33, .ref m34, .ref m35, .ref m36, .ref m37, .ref m38, .int 0, .int 0, .ref m41, .ref m42, .ref m43, .ref m44, .int 0, .int 0, .ref m47, .ref m48, .ref m49, .ref m50, .ref m51, .ref m52, .ref m53, .ref m54])), (m11, .inl (cI, 2, .inl (fun _ => 0)))]) [0, 1] rfl) (hD.sub (ws' := [(m0_, .inr (12, [.ref m0, .ref m1, .int 0, .int 0, .int 0, .int (-1), .int 0, .int 0, .int 0, .int 0, .long 0, .ref m11, .ref m12, .ref m13, .ref m14, .ref m15, .ref m16, .ref m17, .ref m18, .ref m19, .ref m20, .ref m21, .ref m22, .ref m23, .ref m24, .ref m25, .ref m26, .ref m27, .ref m28, .ref m29, .ref m30, .ref m31, .ref m32, .ref m33, .ref m34, .ref m35, .ref m36, .ref m37, .ref m38, .int 0, .int 0, .ref m41, .ref m42, .ref m43, .ref m44, .int 0, .int 0, .ref m47, .ref m48, .ref m49, .ref m50, .ref m51, .ref m52, .ref m53, .ref m54])), (m11, .inl (cI, 2, .inl (fun _ => 0)))]) [0, 1] (by decide) rfl) hS ⟨rfl, rfl⟩ d_Mo_safe_17
set_option maxHeartbeats 4000000 in
set_option maxRecDepth 100000 in
theorem c_Mo_hurt (l : Launch) (D : va_G) (cB cI cJ : ClassId) (m0_ : Nat) (p0 : Int32) (p1 : Int32) (p2 : Int32) (p3 : Int32) (m0 : Nat) (m1 : Nat) (m11 : Nat) (m12 : Nat) (m13 : Nat) (m14 : Nat) (m15 : Nat) (m16 : Nat) (m17 : Nat) (m18 : Nat) (m19 : Nat) (m20 : Nat) (m21 : Nat) (m22 : Nat) (m23 : Nat) (m24 : Nat) (m25 : Nat) (m26 : Nat) (m27 : Nat) (m28 : Nat) (m29 : Nat) (m30 : Nat) (m31 : Nat) (m32 : Nat) (m33 : Nat) (m34 : Nat) (m35 : Nat) (m36 : Nat) (m37 : Nat) (m38 : Nat) (m41 : Nat) (m42 : Nat) (m43 : Nat) (m44 : Nat) (m47 : Nat) (m48 : Nat) (m49 : Nat) (m50 : Nat) (m51 : Nat) (m52 : Nat) (m53 : Nat) (m54 : Nat) : nz_Ci l D cB cI cJ nz_x0 y_Mo_hurt b_Mo_hurt 5 (some .int) { frames := 2, cells := 0, slots := 0, locals := 43 } [.ref m0_, .int p0, .int p1, .int p2, .int p3] [(m0_, .inr (12, [.ref m0, .ref m1, .int 0, .int 0, .int 0, .int (-1), .int 0, .int 0, .int 0, .int 0, .long 0, .ref m11, .ref m12, .ref m13, .ref m14, .ref m15, .ref m16, .ref m17, .ref m18, .ref m19, .ref m20, .ref m21, .ref m22, .ref m23, .ref m24, .ref m25, .ref m26, .ref m27, .ref m28, .ref m29, .ref m30, .ref m31, .ref m32, .ref m33, .ref m34, .ref m35, .ref m36, .ref m37, .ref m38, .int 0, .int 0, .ref m41, .ref m42, .ref m43, .ref m44, .int 0, .int 0, .ref m47, .ref m48, .ref m49, .ref m50, .ref m51, .ref m52, .ref m53, .ref m54])), (m11, .inl (cI, 2, .inl (fun _ => 0)))] (fun r w => r = (-1000) ∧ w = [(m0_, .inr (12, [.ref m0, .ref m1, .int 0, .int 0, .int 0, .int (-1), .int 0, .int 0, .int 0, .int 0, .long 0, .ref m11, .ref m12, .ref m13, .ref m14, .ref m15, .ref m16, .ref m17, .ref m18, .ref m19, .ref m20, .ref m21, .ref m22, .ref m23, .ref m24, .ref m25, .ref m26, .ref m27, .ref m28, .ref m29, .ref m30, .ref m31, .ref m32, .ref m33, .ref m34, .ref m35, .ref m36, .ref m37, .ref m38, .int 0, .int 0, .ref m41, .ref m42, .ref m43, .ref m44, .int 0, .int 0, .ref m47, .ref m48, .ref m49, .ref m50, .ref m51, .ref m52, .ref m53, .ref m54])), (m11, .inl (cI, 2, .inl (fun _ => 0)))]) := by
  refine nz_Ci.mk (by decide) (Nat.le_of_ble_eq_true rfl) ?_
  intro p e s m below meth c A ls C0 hnm hP hD hS hA hX hl
  have C0 : nz_Cx p s m _ meth c b_Mo_hurt 5 (some .int) R_Mo D cB cI cJ := C0
  obtain ⟨hx, hb, hr, hml, hown, hts, hlk, hK⟩ := id C0
  have hl : lv_has ls 5 [(0, .ref m0_), (1, .int p0), (2, .int p1), (3, .int p2), (4, .int p3)] := hl
  refine lv_aload_n hx hb d_Mo_hurt_0 rfl (lv_at hl 0 rfl) ?_
  refine lv_iload_n hx hb d_Mo_hurt_1 rfl (lv_at hl 1 rfl) ?_
  refine nz_calVi (As := [.int p0]) (rest := []) C0 (c_Mo_isPlace l D cB cI cJ m0_ p0 m0 m1 m11 m12 m13 m14 m15 m16 m17 m18 m19 m20 m21 m22 m23 m24 m25 m26 m27 m28 m29 m30 m31 m32 m33 m34 m35 m36 m37 m38 m41 m42 m43 m44 m47 m48 m49 m50 m51 m52 m53 m54) g_Mo_402 rfl nz_xb0 (by decide) hl.1 hP hD hS hA [0, 1] [] rfl (wr := []) rfl (by decide) (by decide) (by decide) rfl rfl (fun _ _ _ => trivial) rfl (by decide) d_Mo_hurt_2 (by decide) (fun r_1 u H locs h_2 hP hD hS => ?_)
  obtain ⟨h_2_r, rfl⟩ := h_2
  have hP : va_P D nz_cl [(m0_, .inr (12, [.ref m0, .ref m1, .int 0, .int 0, .int 0, .int (-1), .int 0, .int 0, .int 0, .int 0, .long 0, .ref m11, .ref m12, .ref m13, .ref m14, .ref m15, .ref m16, .ref m17, .ref m18, .ref m19, .ref m20, .ref m21, .ref m22, .ref m23, .ref m24, .ref m25, .ref m26, .ref m27, .ref m28, .ref m29, .ref m30, .ref m31, .ref m32, .ref m33, .ref m34, .ref m35, .ref m36, .ref m37, .ref m38, .int 0, .int 0, .ref m41, .ref m42, .ref m43, .ref m44, .int 0, .int 0, .ref m47, .ref m48, .ref m49, .ref m50, .ref m51, .ref m52, .ref m53, .ref m54])), (m11, .inl (cI, 2, .inl (fun _ => 0)))] H := hP
  have hD : va_D A [(m0_, .inr (12, [.ref m0, .ref m1, .int 0, .int 0, .int 0, .int (-1), .int 0, .int 0, .int 0, .int 0, .long 0, .ref m11, .ref m12, .ref m13, .ref m14, .ref m15, .ref m16, .ref m17, .ref m18, .ref m19, .ref m20, .ref m21, .ref m22, .ref m23, .ref m24, .ref m25, .ref m26, .ref m27, .ref m28, .ref m29, .ref m30, .ref m31, .ref m32, .ref m33, .ref m34, .ref m35, .ref m36, .ref m37, .ref m38, .int 0, .int 0, .ref m41, .ref m42, .ref m43, .ref m44, .int 0, .int 0, .ref m47, .ref m48, .ref m49, .ref m50, .ref m51, .ref m52, .ref m53, .ref m54])), (m11, .inl (cI, 2, .inl (fun _ => 0)))] := hD
  subst h_2_r
  refine lv_if_eq (tgt := 23) hx hb d_Mo_hurt_5 (by decide) (fun c_3 => ?_) (fun c_3 => absurd (by decide +kernel) c_3)
  refine lv_sipush (v := (-1000)) hx hb d_Mo_hurt_23 (by decide +kernel) ?_
  exact nz_reti C0 (hP.sub (ws' := [(m0_, .inr (12, [.ref m0, .ref m1, .int 0, .int 0, .int 0, .int (-1), .int 0, .int 0, .int 0, .int 0, .long 0, .ref m11, .ref m12, .ref m13, .ref m14, .ref m15, .ref m16, .ref m17, .ref m18, .ref m19, .ref m20, .ref m21, .ref m22, .ref m23, .ref m24, .ref m25, .ref m26, .ref m27, .ref m28, .ref m29, .ref m30, .ref m31, .ref m32, .ref m33, .ref m34, .ref m35, .ref m36, .ref m37, .ref m38, .int 0, .int 0, .ref m41, .ref m42, .ref m43, .ref m44, .int 0, .int 0, .ref m47, .ref m48, .ref m49, .ref m50, .ref m51, .ref m52, .ref m53, .ref m54])), (m11, .inl (cI, 2, .inl (fun _ => 0)))]) [0, 1] rfl) (hD.sub (ws' := [(m0_, .inr (12, [.ref m0, .ref m1, .int 0, .int 0, .int 0, .int (-1), .int 0, .int 0, .int 0, .int 0, .long 0, .ref m11, .ref m12, .ref m13, .ref m14, .ref m15, .ref m16, .ref m17, .ref m18, .ref m19, .ref m20, .ref m21, .ref m22, .ref m23, .ref m24, .ref m25, .ref m26, .ref m27, .ref m28, .ref m29, .ref m30, .ref m31, .ref m32, .ref m33, .ref m34, .ref m35, .ref m36, .ref m37, .ref m38, .int 0, .int 0, .ref m41, .ref m42, .ref m43, .ref m44, .int 0, .int 0, .ref m47, .ref m48, .ref m49, .ref m50, .ref m51, .ref m52, .ref m53, .ref m54])), (m11, .inl (cI, 2, .inl (fun _ => 0)))]) [0, 1] (by decide) rfl) hS ⟨rfl, rfl⟩ d_Mo_hurt_26
set_option maxHeartbeats 4000000 in
set_option maxRecDepth 100000 in
theorem c_Mo_child (l : Launch) (D : va_G) (cB cI cJ : ClassId) (m0_ : Nat) (p0 : Int32) (p1 : Int32) (p2 : Int32) (m0 : Nat) (m1 : Nat) (m11 : Nat) (m12 : Nat) (m13 : Nat) (m14 : Nat) (m15 : Nat) (m16 : Nat) (m17 : Nat) (m18 : Nat) (m19 : Nat) (m20 : Nat) (m21 : Nat) (m22 : Nat) (m23 : Nat) (m24 : Nat) (m25 : Nat) (m26 : Nat) (m27 : Nat) (m28 : Nat) (m29 : Nat) (m30 : Nat) (m31 : Nat) (m32 : Nat) (m33 : Nat) (m34 : Nat) (m35 : Nat) (m36 : Nat) (m37 : Nat) (m38 : Nat) (m41 : Nat) (m42 : Nat) (m43 : Nat) (m44 : Nat) (m47 : Nat) (m48 : Nat) (m49 : Nat) (m50 : Nat) (m51 : Nat) (m52 : Nat) (m53 : Nat) (m54 : Nat) : nz_Ci l D cB cI cJ nz_x0 y_Mo_child b_Mo_child 8 (some .int) { frames := 2, cells := 0, slots := 0, locals := 43 } [.ref m0_, .int p0, .int p1, .int p2] [(m0_, .inr (12, [.ref m0, .ref m1, .int 0, .int 0, .int 0, .int (-1), .int 0, .int 0, .int 0, .int 0, .long 0, .ref m11, .ref m12, .ref m13, .ref m14, .ref m15, .ref m16, .ref m17, .ref m18, .ref m19, .ref m20, .ref m21, .ref m22, .ref m23, .ref m24, .ref m25, .ref m26, .ref m27, .ref m28, .ref m29, .ref m30, .ref m31, .ref m32, .ref m33, .ref m34, .ref m35, .ref m36, .ref m37, .ref m38, .int 0, .int 0, .ref m41, .ref m42, .ref m43, .ref m44, .int 0, .int 0, .ref m47, .ref m48, .ref m49, .ref m50, .ref m51, .ref m52, .ref m53, .ref m54])), (m11, .inl (cI, 2, .inl (fun _ => 0)))] (fun r w => r = (-1) ∧ w = [(m0_, .inr (12, [.ref m0, .ref m1, .int 0, .int 0, .int 0, .int (-1), .int 0, .int 0, .int 0, .int 0, .long 0, .ref m11, .ref m12, .ref m13, .ref m14, .ref m15, .ref m16, .ref m17, .ref m18, .ref m19, .ref m20, .ref m21, .ref m22, .ref m23, .ref m24, .ref m25, .ref m26, .ref m27, .ref m28, .ref m29, .ref m30, .ref m31, .ref m32, .ref m33, .ref m34, .ref m35, .ref m36, .ref m37, .ref m38, .int 0, .int 0, .ref m41, .ref m42, .ref m43, .ref m44, .int 0, .int 0, .ref m47, .ref m48, .ref m49, .ref m50, .ref m51, .ref m52, .ref m53, .ref m54])), (m11, .inl (cI, 2, .inl (fun _ => 0)))]) := by
  refine nz_Ci.mk (by decide) (Nat.le_of_ble_eq_true rfl) ?_
  intro p e s m below meth c A ls C0 hnm hP hD hS hA hX hl
  have C0 : nz_Cx p s m _ meth c b_Mo_child 8 (some .int) R_Mo D cB cI cJ := C0
  obtain ⟨hx, hb, hr, hml, hown, hts, hlk, hK⟩ := id C0
  have hl : lv_has ls 8 [(0, .ref m0_), (1, .int p0), (2, .int p1), (3, .int p2)] := hl
  refine lv_aload_n hx hb d_Mo_child_0 rfl (lv_at hl 0 rfl) ?_
  refine lv_iload_n hx hb d_Mo_child_1 rfl (lv_at hl 1 rfl) ?_
  refine nz_calVi (As := [.int p0]) (rest := []) C0 (c_Mo_isPlace l D cB cI cJ m0_ p0 m0 m1 m11 m12 m13 m14 m15 m16 m17 m18 m19 m20 m21 m22 m23 m24 m25 m26 m27 m28 m29 m30 m31 m32 m33 m34 m35 m36 m37 m38 m41 m42 m43 m44 m47 m48 m49 m50 m51 m52 m53 m54) g_Mo_402 rfl nz_xb0 (by decide) hl.1 hP hD hS hA [0, 1] [] rfl (wr := []) rfl (by decide) (by decide) (by decide) rfl rfl (fun _ _ _ => trivial) rfl (by decide) d_Mo_child_2 (by decide) (fun r_1 u H locs h_2 hP hD hS => ?_)
  obtain ⟨h_2_r, rfl⟩ := h_2
  have hP : va_P D nz_cl [(m0_, .inr (12, [.ref m0, .ref m1, .int 0, .int 0, .int 0, .int (-1), .int 0, .int 0, .int 0, .int 0, .long 0, .ref m11, .ref m12, .ref m13, .ref m14, .ref m15, .ref m16, .ref m17, .ref m18, .ref m19, .ref m20, .ref m21, .ref m22, .ref m23, .ref m24, .ref m25, .ref m26, .ref m27, .ref m28, .ref m29, .ref m30, .ref m31, .ref m32, .ref m33, .ref m34, .ref m35, .ref m36, .ref m37, .ref m38, .int 0, .int 0, .ref m41, .ref m42, .ref m43, .ref m44, .int 0, .int 0, .ref m47, .ref m48, .ref m49, .ref m50, .ref m51, .ref m52, .ref m53, .ref m54])), (m11, .inl (cI, 2, .inl (fun _ => 0)))] H := hP
  have hD : va_D A [(m0_, .inr (12, [.ref m0, .ref m1, .int 0, .int 0, .int 0, .int (-1), .int 0, .int 0, .int 0, .int 0, .long 0, .ref m11, .ref m12, .ref m13, .ref m14, .ref m15, .ref m16, .ref m17, .ref m18, .ref m19, .ref m20, .ref m21, .ref m22, .ref m23, .ref m24, .ref m25, .ref m26, .ref m27, .ref m28, .ref m29, .ref m30, .ref m31, .ref m32, .ref m33, .ref m34, .ref m35, .ref m36, .ref m37, .ref m38, .int 0, .int 0, .ref m41, .ref m42, .ref m43, .ref m44, .int 0, .int 0, .ref m47, .ref m48, .ref m49, .ref m50, .ref m51, .ref m52, .ref m53, .ref m54])), (m11, .inl (cI, 2, .inl (fun _ => 0)))] := hD
  subst h_2_r
  refine lv_if_eq (tgt := 15) hx hb d_Mo_child_5 (by decide) (fun c_3 => ?_) (fun c_3 => absurd (by decide +kernel) c_3)
  refine lv_iconst (v := (-1)) hx hb d_Mo_child_15 (by decide +kernel) ?_
  exact nz_reti C0 (hP.sub (ws' := [(m0_, .inr (12, [.ref m0, .ref m1, .int 0, .int 0, .int 0, .int (-1), .int 0, .int 0, .int 0, .int 0, .long 0, .ref m11, .ref m12, .ref m13, .ref m14, .ref m15, .ref m16, .ref m17, .ref m18, .ref m19, .ref m20, .ref m21, .ref m22, .ref m23, .ref m24, .ref m25, .ref m26, .ref m27, .ref m28, .ref m29, .ref m30, .ref m31, .ref m32, .ref m33, .ref m34, .ref m35, .ref m36, .ref m37, .ref m38, .int 0, .int 0, .ref m41, .ref m42, .ref m43, .ref m44, .int 0, .int 0, .ref m47, .ref m48, .ref m49, .ref m50, .ref m51, .ref m52, .ref m53, .ref m54])), (m11, .inl (cI, 2, .inl (fun _ => 0)))]) [0, 1] rfl) (hD.sub (ws' := [(m0_, .inr (12, [.ref m0, .ref m1, .int 0, .int 0, .int 0, .int (-1), .int 0, .int 0, .int 0, .int 0, .long 0, .ref m11, .ref m12, .ref m13, .ref m14, .ref m15, .ref m16, .ref m17, .ref m18, .ref m19, .ref m20, .ref m21, .ref m22, .ref m23, .ref m24, .ref m25, .ref m26, .ref m27, .ref m28, .ref m29, .ref m30, .ref m31, .ref m32, .ref m33, .ref m34, .ref m35, .ref m36, .ref m37, .ref m38, .int 0, .int 0, .ref m41, .ref m42, .ref m43, .ref m44, .int 0, .int 0, .ref m47, .ref m48, .ref m49, .ref m50, .ref m51, .ref m52, .ref m53, .ref m54])), (m11, .inl (cI, 2, .inl (fun _ => 0)))]) [0, 1] (by decide) rfl) hS ⟨rfl, rfl⟩ d_Mo_child_16
set_option maxHeartbeats 4000000 in
set_option maxRecDepth 100000 in
theorem c_Mo_wish (l : Launch) (D : va_G) (cB cI cJ : ClassId) (m0_ : Nat) (p0 : Int32) (p1 : Int32) (p2 : Int32) (m0 : Nat) (m1 : Nat) (m11 : Nat) (m12 : Nat) (m13 : Nat) (m14 : Nat) (m15 : Nat) (m16 : Nat) (m17 : Nat) (m18 : Nat) (m19 : Nat) (m20 : Nat) (m21 : Nat) (m22 : Nat) (m23 : Nat) (m24 : Nat) (m25 : Nat) (m26 : Nat) (m27 : Nat) (m28 : Nat) (m29 : Nat) (m30 : Nat) (m31 : Nat) (m32 : Nat) (m33 : Nat) (m34 : Nat) (m35 : Nat) (m36 : Nat) (m37 : Nat) (m38 : Nat) (m41 : Nat) (m42 : Nat) (m43 : Nat) (m44 : Nat) (m47 : Nat) (m48 : Nat) (m49 : Nat) (m50 : Nat) (m51 : Nat) (m52 : Nat) (m53 : Nat) (m54 : Nat) : nz_Ci l D cB cI cJ nz_x0 y_Mo_wish b_Mo_wish 12 (some .int) { frames := 2, cells := 0, slots := 0, locals := 43 } [.ref m0_, .int p0, .int p1, .int p2] [(m0_, .inr (12, [.ref m0, .ref m1, .int 0, .int 0, .int 0, .int (-1), .int 0, .int 0, .int 0, .int 0, .long 0, .ref m11, .ref m12, .ref m13, .ref m14, .ref m15, .ref m16, .ref m17, .ref m18, .ref m19, .ref m20, .ref m21, .ref m22, .ref m23, .ref m24, .ref m25, .ref m26, .ref m27, .ref m28, .ref m29, .ref m30, .ref m31, .ref m32, .ref m33, .ref m34, .ref m35, .ref m36, .ref m37, .ref m38, .int 0, .int 0, .ref m41, .ref m42, .ref m43, .ref m44, .int 0, .int 0, .ref m47, .ref m48, .ref m49, .ref m50, .ref m51, .ref m52, .ref m53, .ref m54])), (m11, .inl (cI, 2, .inl (fun _ => 0)))] (fun r w => r = (-1) ∧ w = [(m0_, .inr (12, [.ref m0, .ref m1, .int 0, .int 0, .int 0, .int (-1), .int 0, .int 0, .int 0, .int 0, .long 0, .ref m11, .ref m12, .ref m13, .ref m14, .ref m15, .ref m16, .ref m17, .ref m18, .ref m19, .ref m20, .ref m21, .ref m22, .ref m23, .ref m24, .ref m25, .ref m26, .ref m27, .ref m28, .ref m29, .ref m30, .ref m31, .ref m32, .ref m33, .ref m34, .ref m35, .ref m36, .ref m37, .ref m38, .int 0, .int 0, .ref m41, .ref m42, .ref m43, .ref m44, .int 0, .int 0, .ref m47, .ref m48, .ref m49, .ref m50, .ref m51, .ref m52, .ref m53, .ref m54])), (m11, .inl (cI, 2, .inl (fun _ => 0)))]) := by
  refine nz_Ci.mk (by decide) (Nat.le_of_ble_eq_true rfl) ?_
  intro p e s m below meth c A ls C0 hnm hP hD hS hA hX hl
  have C0 : nz_Cx p s m _ meth c b_Mo_wish 12 (some .int) R_Mo D cB cI cJ := C0
  obtain ⟨hx, hb, hr, hml, hown, hts, hlk, hK⟩ := id C0
  have hl : lv_has ls 12 [(0, .ref m0_), (1, .int p0), (2, .int p1), (3, .int p2)] := hl
  refine lv_aload_n hx hb d_Mo_wish_0 rfl (lv_at hl 0 rfl) ?_
  refine lv_iload_n hx hb d_Mo_wish_1 rfl (lv_at hl 1 rfl) ?_
  refine nz_calVi (As := [.int p0]) (rest := []) C0 (c_Mo_isPlace l D cB cI cJ m0_ p0 m0 m1 m11 m12 m13 m14 m15 m16 m17 m18 m19 m20 m21 m22 m23 m24 m25 m26 m27 m28 m29 m30 m31 m32 m33 m34 m35 m36 m37 m38 m41 m42 m43 m44 m47 m48 m49 m50 m51 m52 m53 m54) g_Mo_402 rfl nz_xb0 (by decide) hl.1 hP hD hS hA [0, 1] [] rfl (wr := []) rfl (by decide) (by decide) (by decide) rfl rfl (fun _ _ _ => trivial) rfl (by decide) d_Mo_wish_2 (by decide) (fun r_1 u H locs h_2 hP hD hS => ?_)
  obtain ⟨h_2_r, rfl⟩ := h_2
  have hP : va_P D nz_cl [(m0_, .inr (12, [.ref m0, .ref m1, .int 0, .int 0, .int 0, .int (-1), .int 0, .int 0, .int 0, .int 0, .long 0, .ref m11, .ref m12, .ref m13, .ref m14, .ref m15, .ref m16, .ref m17, .ref m18, .ref m19, .ref m20, .ref m21, .ref m22, .ref m23, .ref m24, .ref m25, .ref m26, .ref m27, .ref m28, .ref m29, .ref m30, .ref m31, .ref m32, .ref m33, .ref m34, .ref m35, .ref m36, .ref m37, .ref m38, .int 0, .int 0, .ref m41, .ref m42, .ref m43, .ref m44, .int 0, .int 0, .ref m47, .ref m48, .ref m49, .ref m50, .ref m51, .ref m52, .ref m53, .ref m54])), (m11, .inl (cI, 2, .inl (fun _ => 0)))] H := hP
  have hD : va_D A [(m0_, .inr (12, [.ref m0, .ref m1, .int 0, .int 0, .int 0, .int (-1), .int 0, .int 0, .int 0, .int 0, .long 0, .ref m11, .ref m12, .ref m13, .ref m14, .ref m15, .ref m16, .ref m17, .ref m18, .ref m19, .ref m20, .ref m21, .ref m22, .ref m23, .ref m24, .ref m25, .ref m26, .ref m27, .ref m28, .ref m29, .ref m30, .ref m31, .ref m32, .ref m33, .ref m34, .ref m35, .ref m36, .ref m37, .ref m38, .int 0, .int 0, .ref m41, .ref m42, .ref m43, .ref m44, .int 0, .int 0, .ref m47, .ref m48, .ref m49, .ref m50, .ref m51, .ref m52, .ref m53, .ref m54])), (m11, .inl (cI, 2, .inl (fun _ => 0)))] := hD
  subst h_2_r
  refine lv_if_eq (tgt := 15) hx hb d_Mo_wish_5 (by decide) (fun c_3 => ?_) (fun c_3 => absurd (by decide +kernel) c_3)
  refine lv_iconst (v := (-1)) hx hb d_Mo_wish_15 (by decide +kernel) ?_
  exact nz_reti C0 (hP.sub (ws' := [(m0_, .inr (12, [.ref m0, .ref m1, .int 0, .int 0, .int 0, .int (-1), .int 0, .int 0, .int 0, .int 0, .long 0, .ref m11, .ref m12, .ref m13, .ref m14, .ref m15, .ref m16, .ref m17, .ref m18, .ref m19, .ref m20, .ref m21, .ref m22, .ref m23, .ref m24, .ref m25, .ref m26, .ref m27, .ref m28, .ref m29, .ref m30, .ref m31, .ref m32, .ref m33, .ref m34, .ref m35, .ref m36, .ref m37, .ref m38, .int 0, .int 0, .ref m41, .ref m42, .ref m43, .ref m44, .int 0, .int 0, .ref m47, .ref m48, .ref m49, .ref m50, .ref m51, .ref m52, .ref m53, .ref m54])), (m11, .inl (cI, 2, .inl (fun _ => 0)))]) [0, 1] rfl) (hD.sub (ws' := [(m0_, .inr (12, [.ref m0, .ref m1, .int 0, .int 0, .int 0, .int (-1), .int 0, .int 0, .int 0, .int 0, .long 0, .ref m11, .ref m12, .ref m13, .ref m14, .ref m15, .ref m16, .ref m17, .ref m18, .ref m19, .ref m20, .ref m21, .ref m22, .ref m23, .ref m24, .ref m25, .ref m26, .ref m27, .ref m28, .ref m29, .ref m30, .ref m31, .ref m32, .ref m33, .ref m34, .ref m35, .ref m36, .ref m37, .ref m38, .int 0, .int 0, .ref m41, .ref m42, .ref m43, .ref m44, .int 0, .int 0, .ref m47, .ref m48, .ref m49, .ref m50, .ref m51, .ref m52, .ref m53, .ref m54])), (m11, .inl (cI, 2, .inl (fun _ => 0)))]) [0, 1] (by decide) rfl) hS ⟨rfl, rfl⟩ d_Mo_wish_16
set_option maxHeartbeats 4000000 in
set_option maxRecDepth 100000 in
theorem c_Mo_old (l : Launch) (D : va_G) (cB cI cJ : ClassId) (m0_ : Nat) (p0 : Int32) (p1 : Int32) (m0 : Nat) (m1 : Nat) (m11 : Nat) (m12 : Nat) (m13 : Nat) (m14 : Nat) (m15 : Nat) (m16 : Nat) (m17 : Nat) (m18 : Nat) (m19 : Nat) (m20 : Nat) (m21 : Nat) (m22 : Nat) (m23 : Nat) (m24 : Nat) (m25 : Nat) (m26 : Nat) (m27 : Nat) (m28 : Nat) (m29 : Nat) (m30 : Nat) (m31 : Nat) (m32 : Nat) (m33 : Nat) (m34 : Nat) (m35 : Nat) (m36 : Nat) (m37 : Nat) (m38 : Nat) (m41 : Nat) (m42 : Nat) (m43 : Nat) (m44 : Nat) (m47 : Nat) (m48 : Nat) (m49 : Nat) (m50 : Nat) (m51 : Nat) (m52 : Nat) (m53 : Nat) (m54 : Nat) : nz_Ci l D cB cI cJ nz_x0 y_Mo_old b_Mo_old 6 (some .int) { frames := 2, cells := 0, slots := 0, locals := 43 } [.ref m0_, .int p0, .int p1] [(m0_, .inr (12, [.ref m0, .ref m1, .int 0, .int 0, .int 0, .int (-1), .int 0, .int 0, .int 0, .int 0, .long 0, .ref m11, .ref m12, .ref m13, .ref m14, .ref m15, .ref m16, .ref m17, .ref m18, .ref m19, .ref m20, .ref m21, .ref m22, .ref m23, .ref m24, .ref m25, .ref m26, .ref m27, .ref m28, .ref m29, .ref m30, .ref m31, .ref m32, .ref m33, .ref m34, .ref m35, .ref m36, .ref m37, .ref m38, .int 0, .int 0, .ref m41, .ref m42, .ref m43, .ref m44, .int 0, .int 0, .ref m47, .ref m48, .ref m49, .ref m50, .ref m51, .ref m52, .ref m53, .ref m54])), (m12, .inl (cI, 2, .inl (fun _ => 0)))] (fun r w => r = (-1) ∧ w = [(m0_, .inr (12, [.ref m0, .ref m1, .int 0, .int 0, .int 0, .int (-1), .int 0, .int 0, .int 0, .int 0, .long 0, .ref m11, .ref m12, .ref m13, .ref m14, .ref m15, .ref m16, .ref m17, .ref m18, .ref m19, .ref m20, .ref m21, .ref m22, .ref m23, .ref m24, .ref m25, .ref m26, .ref m27, .ref m28, .ref m29, .ref m30, .ref m31, .ref m32, .ref m33, .ref m34, .ref m35, .ref m36, .ref m37, .ref m38, .int 0, .int 0, .ref m41, .ref m42, .ref m43, .ref m44, .int 0, .int 0, .ref m47, .ref m48, .ref m49, .ref m50, .ref m51, .ref m52, .ref m53, .ref m54])), (m12, .inl (cI, 2, .inl (fun _ => 0)))]) := by
  refine nz_Ci.mk (by decide) (Nat.le_of_ble_eq_true rfl) ?_
  intro p e s m below meth c A ls C0 hnm hP hD hS hA hX hl
  have C0 : nz_Cx p s m _ meth c b_Mo_old 6 (some .int) R_Mo D cB cI cJ := C0
  obtain ⟨hx, hb, hr, hml, hown, hts, hlk, hK⟩ := id C0
  have hl : lv_has ls 6 [(0, .ref m0_), (1, .int p0), (2, .int p1)] := hl
  refine lv_aload_n hx hb d_Mo_old_0 rfl (lv_at hl 0 rfl) ?_
  refine lv_iload_n hx hb d_Mo_old_1 rfl (lv_at hl 1 rfl) ?_
  refine nz_calVi (As := [.int p0]) (rest := []) C0 (c_Mo_isMeaning l D cB cI cJ m0_ p0 m0 m1 m11 m12 m13 m14 m15 m16 m17 m18 m19 m20 m21 m22 m23 m24 m25 m26 m27 m28 m29 m30 m31 m32 m33 m34 m35 m36 m37 m38 m41 m42 m43 m44 m47 m48 m49 m50 m51 m52 m53 m54) g_Mo_388 rfl nz_xb0 (by decide) hl.1 hP hD hS hA [0, 1] [] rfl (wr := []) rfl (by decide) (by decide) (by decide) rfl rfl (fun _ _ _ => trivial) rfl (by decide) d_Mo_old_2 (by decide) (fun r_1 u H locs h_2 hP hD hS => ?_)
  obtain ⟨h_2_r, rfl⟩ := h_2
  have hP : va_P D nz_cl [(m0_, .inr (12, [.ref m0, .ref m1, .int 0, .int 0, .int 0, .int (-1), .int 0, .int 0, .int 0, .int 0, .long 0, .ref m11, .ref m12, .ref m13, .ref m14, .ref m15, .ref m16, .ref m17, .ref m18, .ref m19, .ref m20, .ref m21, .ref m22, .ref m23, .ref m24, .ref m25, .ref m26, .ref m27, .ref m28, .ref m29, .ref m30, .ref m31, .ref m32, .ref m33, .ref m34, .ref m35, .ref m36, .ref m37, .ref m38, .int 0, .int 0, .ref m41, .ref m42, .ref m43, .ref m44, .int 0, .int 0, .ref m47, .ref m48, .ref m49, .ref m50, .ref m51, .ref m52, .ref m53, .ref m54])), (m12, .inl (cI, 2, .inl (fun _ => 0)))] H := hP
  have hD : va_D A [(m0_, .inr (12, [.ref m0, .ref m1, .int 0, .int 0, .int 0, .int (-1), .int 0, .int 0, .int 0, .int 0, .long 0, .ref m11, .ref m12, .ref m13, .ref m14, .ref m15, .ref m16, .ref m17, .ref m18, .ref m19, .ref m20, .ref m21, .ref m22, .ref m23, .ref m24, .ref m25, .ref m26, .ref m27, .ref m28, .ref m29, .ref m30, .ref m31, .ref m32, .ref m33, .ref m34, .ref m35, .ref m36, .ref m37, .ref m38, .int 0, .int 0, .ref m41, .ref m42, .ref m43, .ref m44, .int 0, .int 0, .ref m47, .ref m48, .ref m49, .ref m50, .ref m51, .ref m52, .ref m53, .ref m54])), (m12, .inl (cI, 2, .inl (fun _ => 0)))] := hD
  subst h_2_r
  refine lv_if_eq (tgt := 17) hx hb d_Mo_old_5 (by decide) (fun c_3 => ?_) (fun c_3 => absurd (by decide +kernel) c_3)
  refine lv_iconst (v := (-1)) hx hb d_Mo_old_17 (by decide +kernel) ?_
  exact nz_reti C0 (hP.sub (ws' := [(m0_, .inr (12, [.ref m0, .ref m1, .int 0, .int 0, .int 0, .int (-1), .int 0, .int 0, .int 0, .int 0, .long 0, .ref m11, .ref m12, .ref m13, .ref m14, .ref m15, .ref m16, .ref m17, .ref m18, .ref m19, .ref m20, .ref m21, .ref m22, .ref m23, .ref m24, .ref m25, .ref m26, .ref m27, .ref m28, .ref m29, .ref m30, .ref m31, .ref m32, .ref m33, .ref m34, .ref m35, .ref m36, .ref m37, .ref m38, .int 0, .int 0, .ref m41, .ref m42, .ref m43, .ref m44, .int 0, .int 0, .ref m47, .ref m48, .ref m49, .ref m50, .ref m51, .ref m52, .ref m53, .ref m54])), (m12, .inl (cI, 2, .inl (fun _ => 0)))]) [0, 1] rfl) (hD.sub (ws' := [(m0_, .inr (12, [.ref m0, .ref m1, .int 0, .int 0, .int 0, .int (-1), .int 0, .int 0, .int 0, .int 0, .long 0, .ref m11, .ref m12, .ref m13, .ref m14, .ref m15, .ref m16, .ref m17, .ref m18, .ref m19, .ref m20, .ref m21, .ref m22, .ref m23, .ref m24, .ref m25, .ref m26, .ref m27, .ref m28, .ref m29, .ref m30, .ref m31, .ref m32, .ref m33, .ref m34, .ref m35, .ref m36, .ref m37, .ref m38, .int 0, .int 0, .ref m41, .ref m42, .ref m43, .ref m44, .int 0, .int 0, .ref m47, .ref m48, .ref m49, .ref m50, .ref m51, .ref m52, .ref m53, .ref m54])), (m12, .inl (cI, 2, .inl (fun _ => 0)))]) [0, 1] (by decide) rfl) hS ⟨rfl, rfl⟩ d_Mo_old_18
set_option maxHeartbeats 4000000 in
set_option maxRecDepth 100000 in
theorem c_Mo_untell (l : Launch) (D : va_G) (cB cI cJ : ClassId) (m0_ : Nat) (p0 : Int32) (m0 : Nat) (m1 : Nat) (m11 : Nat) (m12 : Nat) (m13 : Nat) (m14 : Nat) (m15 : Nat) (m16 : Nat) (m17 : Nat) (m18 : Nat) (m19 : Nat) (m20 : Nat) (m21 : Nat) (m22 : Nat) (m23 : Nat) (m24 : Nat) (m25 : Nat) (m26 : Nat) (m27 : Nat) (m28 : Nat) (m29 : Nat) (m30 : Nat) (m31 : Nat) (m32 : Nat) (m33 : Nat) (m34 : Nat) (m35 : Nat) (m36 : Nat) (m37 : Nat) (m38 : Nat) (m41 : Nat) (m42 : Nat) (m43 : Nat) (m44 : Nat) (m47 : Nat) (m48 : Nat) (m49 : Nat) (m50 : Nat) (m51 : Nat) (m52 : Nat) (m53 : Nat) (m54 : Nat) : nz_Ci l D cB cI cJ nz_x0 y_Mo_untell b_Mo_untell 2 (some .boolean) { frames := 1, cells := 0, slots := 0, locals := 22 } [.ref m0_, .int p0] [(m0_, .inr (12, [.ref m0, .ref m1, .int 0, .int 0, .int 0, .int (-1), .int 0, .int 0, .int 0, .int 0, .long 0, .ref m11, .ref m12, .ref m13, .ref m14, .ref m15, .ref m16, .ref m17, .ref m18, .ref m19, .ref m20, .ref m21, .ref m22, .ref m23, .ref m24, .ref m25, .ref m26, .ref m27, .ref m28, .ref m29, .ref m30, .ref m31, .ref m32, .ref m33, .ref m34, .ref m35, .ref m36, .ref m37, .ref m38, .int 0, .int 0, .ref m41, .ref m42, .ref m43, .ref m44, .int 0, .int 0, .ref m47, .ref m48, .ref m49, .ref m50, .ref m51, .ref m52, .ref m53, .ref m54]))] (fun r w => r = 0 ∧ w = [(m0_, .inr (12, [.ref m0, .ref m1, .int 0, .int 0, .int 0, .int (-1), .int 0, .int 0, .int 0, .int 0, .long 0, .ref m11, .ref m12, .ref m13, .ref m14, .ref m15, .ref m16, .ref m17, .ref m18, .ref m19, .ref m20, .ref m21, .ref m22, .ref m23, .ref m24, .ref m25, .ref m26, .ref m27, .ref m28, .ref m29, .ref m30, .ref m31, .ref m32, .ref m33, .ref m34, .ref m35, .ref m36, .ref m37, .ref m38, .int 0, .int 0, .ref m41, .ref m42, .ref m43, .ref m44, .int 0, .int 0, .ref m47, .ref m48, .ref m49, .ref m50, .ref m51, .ref m52, .ref m53, .ref m54]))]) := by
  refine nz_Ci.mk (by decide) (Nat.le_of_ble_eq_true rfl) ?_
  intro p e s m below meth c A ls C0 hnm hP hD hS hA hX hl
  have C0 : nz_Cx p s m _ meth c b_Mo_untell 2 (some .boolean) R_Mo D cB cI cJ := C0
  obtain ⟨hx, hb, hr, hml, hown, hts, hlk, hK⟩ := id C0
  have hl : lv_has ls 2 [(0, .ref m0_), (1, .int p0)] := hl
  refine lv_iload_n hx hb d_Mo_untell_0 rfl (lv_at hl 1 rfl) ?_
  refine lv_iconst (v := 0) hx hb d_Mo_untell_1 (by decide +kernel) ?_
  refine lv_aload_n hx hb d_Mo_untell_2 rfl (lv_at hl 0 rfl) ?_
  refine va_get (D := D) (ci := 12) (v := .int 0) (C := R_Mo) (T := F_Mo) (N := 55) hx hb hts i_Mo hown hK.1 hP 0 rfl rfl 45 (by decide) (hts _ k_1063) (fun _ h9 => h9) rfl d_Mo_untell_3 ?_
  refine lv_iconst (v := 1) hx hb d_Mo_untell_6 (by decide +kernel) ?_
  refine lv_isub hx hb d_Mo_untell_7 ?_
  refine nz_ctopi (v := (-1)) (by decide +kernel) ?_
  refine nz_calSi (As := [.int p0, .int 0, .int (-1)]) (rest := []) C0 (c_Mo_isIn_m1 l D cB cI cJ p0) g_Mo_305 rfl nz_xb0 (by decide) hl.1 hP hD hS hA [] [0] rfl (wr := [(m0_, .inr (12, [.ref m0, .ref m1, .int 0, .int 0, .int 0, .int (-1), .int 0, .int 0, .int 0, .int 0, .long 0, .ref m11, .ref m12, .ref m13, .ref m14, .ref m15, .ref m16, .ref m17, .ref m18, .ref m19, .ref m20, .ref m21, .ref m22, .ref m23, .ref m24, .ref m25, .ref m26, .ref m27, .ref m28, .ref m29, .ref m30, .ref m31, .ref m32, .ref m33, .ref m34, .ref m35, .ref m36, .ref m37, .ref m38, .int 0, .int 0, .ref m41, .ref m42, .ref m43, .ref m44, .int 0, .int 0, .ref m47, .ref m48, .ref m49, .ref m50, .ref m51, .ref m52, .ref m53, .ref m54]))]) rfl (by decide) (by decide) (by decide) (fun _ _ _ => trivial) rfl (by decide) d_Mo_untell_8 (by decide) (fun r_1 u H locs h_2 hP hD hS => ?_)
  obtain ⟨h_2_r, rfl⟩ := h_2
  have hP : va_P D nz_cl [(m0_, .inr (12, [.ref m0, .ref m1, .int 0, .int 0, .int 0, .int (-1), .int 0, .int 0, .int 0, .int 0, .long 0, .ref m11, .ref m12, .ref m13, .ref m14, .ref m15, .ref m16, .ref m17, .ref m18, .ref m19, .ref m20, .ref m21, .ref m22, .ref m23, .ref m24, .ref m25, .ref m26, .ref m27, .ref m28, .ref m29, .ref m30, .ref m31, .ref m32, .ref m33, .ref m34, .ref m35, .ref m36, .ref m37, .ref m38, .int 0, .int 0, .ref m41, .ref m42, .ref m43, .ref m44, .int 0, .int 0, .ref m47, .ref m48, .ref m49, .ref m50, .ref m51, .ref m52, .ref m53, .ref m54]))] H := hP
  have hD : va_D A [(m0_, .inr (12, [.ref m0, .ref m1, .int 0, .int 0, .int 0, .int (-1), .int 0, .int 0, .int 0, .int 0, .long 0, .ref m11, .ref m12, .ref m13, .ref m14, .ref m15, .ref m16, .ref m17, .ref m18, .ref m19, .ref m20, .ref m21, .ref m22, .ref m23, .ref m24, .ref m25, .ref m26, .ref m27, .ref m28, .ref m29, .ref m30, .ref m31, .ref m32, .ref m33, .ref m34, .ref m35, .ref m36, .ref m37, .ref m38, .int 0, .int 0, .ref m41, .ref m42, .ref m43, .ref m44, .int 0, .int 0, .ref m47, .ref m48, .ref m49, .ref m50, .ref m51, .ref m52, .ref m53, .ref m54]))] := hD
  subst h_2_r
  refine lv_if_eq (tgt := 23) hx hb d_Mo_untell_11 (by decide) (fun c_3 => ?_) (fun c_3 => absurd (by decide +kernel) c_3)
  refine lv_iconst (v := 0) hx hb d_Mo_untell_23 (by decide +kernel) ?_
  exact nz_retz C0 (by decide +kernel) (hP.sub (ws' := [(m0_, .inr (12, [.ref m0, .ref m1, .int 0, .int 0, .int 0, .int (-1), .int 0, .int 0, .int 0, .int 0, .long 0, .ref m11, .ref m12, .ref m13, .ref m14, .ref m15, .ref m16, .ref m17, .ref m18, .ref m19, .ref m20, .ref m21, .ref m22, .ref m23, .ref m24, .ref m25, .ref m26, .ref m27, .ref m28, .ref m29, .ref m30, .ref m31, .ref m32, .ref m33, .ref m34, .ref m35, .ref m36, .ref m37, .ref m38, .int 0, .int 0, .ref m41, .ref m42, .ref m43, .ref m44, .int 0, .int 0, .ref m47, .ref m48, .ref m49, .ref m50, .ref m51, .ref m52, .ref m53, .ref m54]))]) [0] rfl) (hD.sub (ws' := [(m0_, .inr (12, [.ref m0, .ref m1, .int 0, .int 0, .int 0, .int (-1), .int 0, .int 0, .int 0, .int 0, .long 0, .ref m11, .ref m12, .ref m13, .ref m14, .ref m15, .ref m16, .ref m17, .ref m18, .ref m19, .ref m20, .ref m21, .ref m22, .ref m23, .ref m24, .ref m25, .ref m26, .ref m27, .ref m28, .ref m29, .ref m30, .ref m31, .ref m32, .ref m33, .ref m34, .ref m35, .ref m36, .ref m37, .ref m38, .int 0, .int 0, .ref m41, .ref m42, .ref m43, .ref m44, .int 0, .int 0, .ref m47, .ref m48, .ref m49, .ref m50, .ref m51, .ref m52, .ref m53, .ref m54]))]) [0] (by decide) rfl) hS ⟨rfl, rfl⟩ d_Mo_untell_24
set_option maxHeartbeats 4000000 in
set_option maxRecDepth 100000 in
theorem c_Mo_mean (l : Launch) (D : va_G) (cB cI cJ : ClassId) (m0_ : Nat) (p0 : Int32) (p1 : Int32) (p2 : Int32) (p3 : Int32) (p4 : Int32) (m0 : Nat) (m1 : Nat) (m11 : Nat) (m12 : Nat) (m13 : Nat) (m14 : Nat) (m15 : Nat) (m16 : Nat) (m17 : Nat) (m18 : Nat) (m19 : Nat) (m20 : Nat) (m21 : Nat) (m22 : Nat) (m23 : Nat) (m24 : Nat) (m25 : Nat) (m26 : Nat) (m27 : Nat) (m28 : Nat) (m29 : Nat) (m30 : Nat) (m31 : Nat) (m32 : Nat) (m33 : Nat) (m34 : Nat) (m35 : Nat) (m36 : Nat) (m37 : Nat) (m38 : Nat) (m41 : Nat) (m42 : Nat) (m43 : Nat) (m44 : Nat) (m47 : Nat) (m48 : Nat) (m49 : Nat) (m50 : Nat) (m51 : Nat) (m52 : Nat) (m53 : Nat) (m54 : Nat) : nz_Cl l D cB cI cJ nz_x0 y_Mo_mean b_Mo_mean 16 (some .long) { frames := 2, cells := 0, slots := 0, locals := 43 } [.ref m0_, .int p0, .int p1, .int p2, .int p3, .int p4] [(m0_, .inr (12, [.ref m0, .ref m1, .int 0, .int 0, .int 0, .int (-1), .int 0, .int 0, .int 0, .int 0, .long 0, .ref m11, .ref m12, .ref m13, .ref m14, .ref m15, .ref m16, .ref m17, .ref m18, .ref m19, .ref m20, .ref m21, .ref m22, .ref m23, .ref m24, .ref m25, .ref m26, .ref m27, .ref m28, .ref m29, .ref m30, .ref m31, .ref m32, .ref m33, .ref m34, .ref m35, .ref m36, .ref m37, .ref m38, .int 0, .int 0, .ref m41, .ref m42, .ref m43, .ref m44, .int 0, .int 0, .ref m47, .ref m48, .ref m49, .ref m50, .ref m51, .ref m52, .ref m53, .ref m54])), (m11, .inl (cI, 2, .inl (fun _ => 0)))] (fun r w => r = (-1) ∧ w = [(m0_, .inr (12, [.ref m0, .ref m1, .int 0, .int 0, .int 0, .int (-1), .int 0, .int 0, .int 0, .int 0, .long 0, .ref m11, .ref m12, .ref m13, .ref m14, .ref m15, .ref m16, .ref m17, .ref m18, .ref m19, .ref m20, .ref m21, .ref m22, .ref m23, .ref m24, .ref m25, .ref m26, .ref m27, .ref m28, .ref m29, .ref m30, .ref m31, .ref m32, .ref m33, .ref m34, .ref m35, .ref m36, .ref m37, .ref m38, .int 0, .int 0, .ref m41, .ref m42, .ref m43, .ref m44, .int 0, .int 0, .ref m47, .ref m48, .ref m49, .ref m50, .ref m51, .ref m52, .ref m53, .ref m54])), (m11, .inl (cI, 2, .inl (fun _ => 0)))]) := by
  refine nz_Cl.mk (by decide) (Nat.le_of_ble_eq_true rfl) ?_
  intro p e s m below meth c A ls C0 hnm hP hD hS hA hX hl
  have C0 : nz_Cx p s m _ meth c b_Mo_mean 16 (some .long) R_Mo D cB cI cJ := C0
  obtain ⟨hx, hb, hr, hml, hown, hts, hlk, hK⟩ := id C0
  have hl : lv_has ls 16 [(0, .ref m0_), (1, .int p0), (2, .int p1), (3, .int p2), (4, .int p3), (5, .int p4)] := hl
  refine lv_aload_n hx hb d_Mo_mean_0 rfl (lv_at hl 0 rfl) ?_
  refine lv_iload_n hx hb d_Mo_mean_1 rfl (lv_at hl 1 rfl) ?_
  refine nz_calVi (As := [.int p0]) (rest := []) C0 (c_Mo_isPlace l D cB cI cJ m0_ p0 m0 m1 m11 m12 m13 m14 m15 m16 m17 m18 m19 m20 m21 m22 m23 m24 m25 m26 m27 m28 m29 m30 m31 m32 m33 m34 m35 m36 m37 m38 m41 m42 m43 m44 m47 m48 m49 m50 m51 m52 m53 m54) g_Mo_402 rfl nz_xb0 (by decide) hl.1 hP hD hS hA [0, 1] [] rfl (wr := []) rfl (by decide) (by decide) (by decide) rfl rfl (fun _ _ _ => trivial) rfl (by decide) d_Mo_mean_2 (by decide) (fun r_1 u H locs h_2 hP hD hS => ?_)
  obtain ⟨h_2_r, rfl⟩ := h_2
  have hP : va_P D nz_cl [(m0_, .inr (12, [.ref m0, .ref m1, .int 0, .int 0, .int 0, .int (-1), .int 0, .int 0, .int 0, .int 0, .long 0, .ref m11, .ref m12, .ref m13, .ref m14, .ref m15, .ref m16, .ref m17, .ref m18, .ref m19, .ref m20, .ref m21, .ref m22, .ref m23, .ref m24, .ref m25, .ref m26, .ref m27, .ref m28, .ref m29, .ref m30, .ref m31, .ref m32, .ref m33, .ref m34, .ref m35, .ref m36, .ref m37, .ref m38, .int 0, .int 0, .ref m41, .ref m42, .ref m43, .ref m44, .int 0, .int 0, .ref m47, .ref m48, .ref m49, .ref m50, .ref m51, .ref m52, .ref m53, .ref m54])), (m11, .inl (cI, 2, .inl (fun _ => 0)))] H := hP
  have hD : va_D A [(m0_, .inr (12, [.ref m0, .ref m1, .int 0, .int 0, .int 0, .int (-1), .int 0, .int 0, .int 0, .int 0, .long 0, .ref m11, .ref m12, .ref m13, .ref m14, .ref m15, .ref m16, .ref m17, .ref m18, .ref m19, .ref m20, .ref m21, .ref m22, .ref m23, .ref m24, .ref m25, .ref m26, .ref m27, .ref m28, .ref m29, .ref m30, .ref m31, .ref m32, .ref m33, .ref m34, .ref m35, .ref m36, .ref m37, .ref m38, .int 0, .int 0, .ref m41, .ref m42, .ref m43, .ref m44, .int 0, .int 0, .ref m47, .ref m48, .ref m49, .ref m50, .ref m51, .ref m52, .ref m53, .ref m54])), (m11, .inl (cI, 2, .inl (fun _ => 0)))] := hD
  subst h_2_r
  refine lv_if_eq (tgt := 35) hx hb d_Mo_mean_5 (by decide) (fun c_3 => ?_) (fun c_3 => absurd (by decide +kernel) c_3)
  refine lv_ldc2 (v := (-1)) hx hb hown (hts _ k_1534) d_Mo_mean_35 ?_
  exact nz_retl C0 (hP.sub (ws' := [(m0_, .inr (12, [.ref m0, .ref m1, .int 0, .int 0, .int 0, .int (-1), .int 0, .int 0, .int 0, .int 0, .long 0, .ref m11, .ref m12, .ref m13, .ref m14, .ref m15, .ref m16, .ref m17, .ref m18, .ref m19, .ref m20, .ref m21, .ref m22, .ref m23, .ref m24, .ref m25, .ref m26, .ref m27, .ref m28, .ref m29, .ref m30, .ref m31, .ref m32, .ref m33, .ref m34, .ref m35, .ref m36, .ref m37, .ref m38, .int 0, .int 0, .ref m41, .ref m42, .ref m43, .ref m44, .int 0, .int 0, .ref m47, .ref m48, .ref m49, .ref m50, .ref m51, .ref m52, .ref m53, .ref m54])), (m11, .inl (cI, 2, .inl (fun _ => 0)))]) [0, 1] rfl) (hD.sub (ws' := [(m0_, .inr (12, [.ref m0, .ref m1, .int 0, .int 0, .int 0, .int (-1), .int 0, .int 0, .int 0, .int 0, .long 0, .ref m11, .ref m12, .ref m13, .ref m14, .ref m15, .ref m16, .ref m17, .ref m18, .ref m19, .ref m20, .ref m21, .ref m22, .ref m23, .ref m24, .ref m25, .ref m26, .ref m27, .ref m28, .ref m29, .ref m30, .ref m31, .ref m32, .ref m33, .ref m34, .ref m35, .ref m36, .ref m37, .ref m38, .int 0, .int 0, .ref m41, .ref m42, .ref m43, .ref m44, .int 0, .int 0, .ref m47, .ref m48, .ref m49, .ref m50, .ref m51, .ref m52, .ref m53, .ref m54])), (m11, .inl (cI, 2, .inl (fun _ => 0)))]) [0, 1] (by decide) rfl) hS ⟨rfl, rfl⟩ d_Mo_mean_38
set_option maxHeartbeats 4000000 in
set_option maxRecDepth 100000 in
theorem c_Mo_later (l : Launch) (D : va_G) (cB cI cJ : ClassId) (m0_ : Nat) (p0 : Int32) (m0 : Nat) (m1 : Nat) (m11 : Nat) (m12 : Nat) (m13 : Nat) (m14 : Nat) (m15 : Nat) (m16 : Nat) (m17 : Nat) (m18 : Nat) (m19 : Nat) (m20 : Nat) (m21 : Nat) (m22 : Nat) (m23 : Nat) (m24 : Nat) (m25 : Nat) (m26 : Nat) (m27 : Nat) (m28 : Nat) (m29 : Nat) (m30 : Nat) (m31 : Nat) (m32 : Nat) (m33 : Nat) (m34 : Nat) (m35 : Nat) (m36 : Nat) (m37 : Nat) (m38 : Nat) (m41 : Nat) (m42 : Nat) (m43 : Nat) (m44 : Nat) (m47 : Nat) (m48 : Nat) (m49 : Nat) (m50 : Nat) (m51 : Nat) (m52 : Nat) (m53 : Nat) (m54 : Nat) : nz_Ci l D cB cI cJ nz_x0 y_Mo_later b_Mo_later 2 (some .int) { frames := 1, cells := 0, slots := 0, locals := 22 } [.ref m0_, .int p0] [(m0_, .inr (12, [.ref m0, .ref m1, .int 0, .int 0, .int 0, .int (-1), .int 0, .int 0, .int 0, .int 0, .long 0, .ref m11, .ref m12, .ref m13, .ref m14, .ref m15, .ref m16, .ref m17, .ref m18, .ref m19, .ref m20, .ref m21, .ref m22, .ref m23, .ref m24, .ref m25, .ref m26, .ref m27, .ref m28, .ref m29, .ref m30, .ref m31, .ref m32, .ref m33, .ref m34, .ref m35, .ref m36, .ref m37, .ref m38, .int 0, .int 0, .ref m41, .ref m42, .ref m43, .ref m44, .int 0, .int 0, .ref m47, .ref m48, .ref m49, .ref m50, .ref m51, .ref m52, .ref m53, .ref m54]))] (fun r w => ∃ (zt : Int32), r = nz_lf p0 ∧ w = [(m0_, .inr (12, [.ref m0, .ref m1, .int 0, .int 0, .int 0, .int (-1), .int 0, .int 0, .int 0, .int 0, .long 0, .ref m11, .ref m12, .ref m13, .ref m14, .ref m15, .ref m16, .ref m17, .ref m18, .ref m19, .ref m20, .ref m21, .ref m22, .ref m23, .ref m24, .ref m25, .ref m26, .ref m27, .ref m28, .ref m29, .ref m30, .ref m31, .ref m32, .ref m33, .ref m34, .ref m35, .ref m36, .ref m37, .ref m38, .int 0, .int 0, .ref m41, .ref m42, .ref m43, .ref m44, .int 0, .int zt, .ref m47, .ref m48, .ref m49, .ref m50, .ref m51, .ref m52, .ref m53, .ref m54]))]) := by
  refine nz_Ci.mk (by decide) (Nat.le_of_ble_eq_true rfl) ?_
  intro p e s m below meth c A ls C0 hnm hP hD hS hA hX hl
  have C0 : nz_Cx p s m _ meth c b_Mo_later 2 (some .int) R_Mo D cB cI cJ := C0
  obtain ⟨hx, hb, hr, hml, hown, hts, hlk, hK⟩ := id C0
  have hl : lv_has ls 2 [(0, .ref m0_), (1, .int p0)] := hl
  refine lv_iload_n hx hb d_Mo_later_0 rfl (lv_at hl 1 rfl) ?_
  refine lv_iconst (v := 0) hx hb d_Mo_later_1 (by decide +kernel) ?_
  refine lv_sipush (v := 1000) hx hb d_Mo_later_2 (by decide +kernel) ?_
  refine nz_calSi (As := [.int p0, .int 0, .int 1000]) (rest := []) C0 (c_Mo_isIn_k l D cB cI cJ p0) g_Mo_305 rfl nz_xb0 (by decide) hl.1 hP hD hS hA [] [0] rfl (wr := [(m0_, .inr (12, [.ref m0, .ref m1, .int 0, .int 0, .int 0, .int (-1), .int 0, .int 0, .int 0, .int 0, .long 0, .ref m11, .ref m12, .ref m13, .ref m14, .ref m15, .ref m16, .ref m17, .ref m18, .ref m19, .ref m20, .ref m21, .ref m22, .ref m23, .ref m24, .ref m25, .ref m26, .ref m27, .ref m28, .ref m29, .ref m30, .ref m31, .ref m32, .ref m33, .ref m34, .ref m35, .ref m36, .ref m37, .ref m38, .int 0, .int 0, .ref m41, .ref m42, .ref m43, .ref m44, .int 0, .int 0, .ref m47, .ref m48, .ref m49, .ref m50, .ref m51, .ref m52, .ref m53, .ref m54]))]) rfl (by decide) (by decide) (by decide) (fun _ _ _ => trivial) rfl (by decide) d_Mo_later_5 (by decide) (fun r_1 u H locs h_2 hP hD hS => ?_)
  obtain ⟨h_2_r, rfl⟩ := h_2
  have hP : va_P D nz_cl [(m0_, .inr (12, [.ref m0, .ref m1, .int 0, .int 0, .int 0, .int (-1), .int 0, .int 0, .int 0, .int 0, .long 0, .ref m11, .ref m12, .ref m13, .ref m14, .ref m15, .ref m16, .ref m17, .ref m18, .ref m19, .ref m20, .ref m21, .ref m22, .ref m23, .ref m24, .ref m25, .ref m26, .ref m27, .ref m28, .ref m29, .ref m30, .ref m31, .ref m32, .ref m33, .ref m34, .ref m35, .ref m36, .ref m37, .ref m38, .int 0, .int 0, .ref m41, .ref m42, .ref m43, .ref m44, .int 0, .int 0, .ref m47, .ref m48, .ref m49, .ref m50, .ref m51, .ref m52, .ref m53, .ref m54]))] H := hP
  have hD : va_D A [(m0_, .inr (12, [.ref m0, .ref m1, .int 0, .int 0, .int 0, .int (-1), .int 0, .int 0, .int 0, .int 0, .long 0, .ref m11, .ref m12, .ref m13, .ref m14, .ref m15, .ref m16, .ref m17, .ref m18, .ref m19, .ref m20, .ref m21, .ref m22, .ref m23, .ref m24, .ref m25, .ref m26, .ref m27, .ref m28, .ref m29, .ref m30, .ref m31, .ref m32, .ref m33, .ref m34, .ref m35, .ref m36, .ref m37, .ref m38, .int 0, .int 0, .ref m41, .ref m42, .ref m43, .ref m44, .int 0, .int 0, .ref m47, .ref m48, .ref m49, .ref m50, .ref m51, .ref m52, .ref m53, .ref m54]))] := hD
  subst h_2_r
  by_cases c_3 : p0 < 0
  · refine nz_ctopi (v := 0) (by unfold nz_in; rw [if_pos c_3]) ?_
    refine lv_if_eq (tgt := 23) hx hb d_Mo_later_8 (by decide) (fun c_4 => ?_) (fun c_4 => absurd (by decide +kernel) c_4)
    refine lv_iconst (v := (-1)) hx hb d_Mo_later_23 (by decide +kernel) ?_
    exact nz_reti C0 (hP.sub (ws' := [(m0_, .inr (12, [.ref m0, .ref m1, .int 0, .int 0, .int 0, .int (-1), .int 0, .int 0, .int 0, .int 0, .long 0, .ref m11, .ref m12, .ref m13, .ref m14, .ref m15, .ref m16, .ref m17, .ref m18, .ref m19, .ref m20, .ref m21, .ref m22, .ref m23, .ref m24, .ref m25, .ref m26, .ref m27, .ref m28, .ref m29, .ref m30, .ref m31, .ref m32, .ref m33, .ref m34, .ref m35, .ref m36, .ref m37, .ref m38, .int 0, .int 0, .ref m41, .ref m42, .ref m43, .ref m44, .int 0, .int 0, .ref m47, .ref m48, .ref m49, .ref m50, .ref m51, .ref m52, .ref m53, .ref m54]))]) [0] rfl) (hD.sub (ws' := [(m0_, .inr (12, [.ref m0, .ref m1, .int 0, .int 0, .int 0, .int (-1), .int 0, .int 0, .int 0, .int 0, .long 0, .ref m11, .ref m12, .ref m13, .ref m14, .ref m15, .ref m16, .ref m17, .ref m18, .ref m19, .ref m20, .ref m21, .ref m22, .ref m23, .ref m24, .ref m25, .ref m26, .ref m27, .ref m28, .ref m29, .ref m30, .ref m31, .ref m32, .ref m33, .ref m34, .ref m35, .ref m36, .ref m37, .ref m38, .int 0, .int 0, .ref m41, .ref m42, .ref m43, .ref m44, .int 0, .int 0, .ref m47, .ref m48, .ref m49, .ref m50, .ref m51, .ref m52, .ref m53, .ref m54]))]) [0] (by decide) rfl) hS ⟨0, (by unfold nz_lf; (try first | rw [if_pos c_3] | rw [if_neg c_3] | rw [if_pos (Int32.not_le.mp c_3)] | rw [if_neg (Int32.not_lt.mpr c_3)] | rw [if_pos (Decidable.not_not.mp c_3)])), rfl⟩ d_Mo_later_24
  · by_cases c_5 : 1000 < p0
    · refine nz_ctopi (v := 0) (by unfold nz_in; rw [if_neg c_3, if_pos c_5]) ?_
      refine lv_if_eq (tgt := 23) hx hb d_Mo_later_8 (by decide) (fun c_6 => ?_) (fun c_6 => absurd (by decide +kernel) c_6)
      refine lv_iconst (v := (-1)) hx hb d_Mo_later_23 (by decide +kernel) ?_
      exact nz_reti C0 (hP.sub (ws' := [(m0_, .inr (12, [.ref m0, .ref m1, .int 0, .int 0, .int 0, .int (-1), .int 0, .int 0, .int 0, .int 0, .long 0, .ref m11, .ref m12, .ref m13, .ref m14, .ref m15, .ref m16, .ref m17, .ref m18, .ref m19, .ref m20, .ref m21, .ref m22, .ref m23, .ref m24, .ref m25, .ref m26, .ref m27, .ref m28, .ref m29, .ref m30, .ref m31, .ref m32, .ref m33, .ref m34, .ref m35, .ref m36, .ref m37, .ref m38, .int 0, .int 0, .ref m41, .ref m42, .ref m43, .ref m44, .int 0, .int 0, .ref m47, .ref m48, .ref m49, .ref m50, .ref m51, .ref m52, .ref m53, .ref m54]))]) [0] rfl) (hD.sub (ws' := [(m0_, .inr (12, [.ref m0, .ref m1, .int 0, .int 0, .int 0, .int (-1), .int 0, .int 0, .int 0, .int 0, .long 0, .ref m11, .ref m12, .ref m13, .ref m14, .ref m15, .ref m16, .ref m17, .ref m18, .ref m19, .ref m20, .ref m21, .ref m22, .ref m23, .ref m24, .ref m25, .ref m26, .ref m27, .ref m28, .ref m29, .ref m30, .ref m31, .ref m32, .ref m33, .ref m34, .ref m35, .ref m36, .ref m37, .ref m38, .int 0, .int 0, .ref m41, .ref m42, .ref m43, .ref m44, .int 0, .int 0, .ref m47, .ref m48, .ref m49, .ref m50, .ref m51, .ref m52, .ref m53, .ref m54]))]) [0] (by decide) rfl) hS ⟨0, (by unfold nz_lf; (try first | rw [if_pos c_3] | rw [if_neg c_3] | rw [if_pos (Int32.not_le.mp c_3)] | rw [if_neg (Int32.not_lt.mpr c_3)] | rw [if_pos (Decidable.not_not.mp c_3)]); (try first | rw [if_pos c_5] | rw [if_neg c_5] | rw [if_pos (Int32.not_le.mp c_5)] | rw [if_neg (Int32.not_lt.mpr c_5)] | rw [if_pos (Decidable.not_not.mp c_5)])), rfl⟩ d_Mo_later_24
    · refine nz_ctopi (v := 1) (by unfold nz_in; rw [if_neg c_3, if_neg c_5]) ?_
      refine lv_if_eq (tgt := 23) hx hb d_Mo_later_8 (by decide) (fun c_7 => absurd c_7 (by decide +kernel)) (fun c_7 => ?_)
      refine lv_aload_n hx hb d_Mo_later_11 rfl (lv_at hl 0 rfl) ?_
      refine va_get (D := D) (ci := 12) (v := .int 0) (C := R_Mo) (T := F_Mo) (N := 55) hx hb hts i_Mo hown hK.1 hP 0 rfl rfl 46 (by decide) (hts _ k_1064) (fun _ h9 => h9) rfl d_Mo_later_12 ?_
      refine lv_iload_n hx hb d_Mo_later_15 rfl (lv_at hl 1 rfl) ?_
      refine lv_iadd hx hb d_Mo_later_16 ?_
      refine nz_ctopi (v := p0) (Int32.zero_add _) ?_
      refine lv_ldc_w (v := 100000) hx hb hown (hts _ k_1344) d_Mo_later_17 ?_
      refine lv_icmp_le (tgt := 25) hx hb d_Mo_later_20 (by decide) (fun c_8 => ?_) (fun c_8 => ?_)
      · refine lv_aload_n hx hb d_Mo_later_25 rfl (lv_at hl 0 rfl) ?_
        refine lv_dup hx hb d_Mo_later_26 rfl ?_
        refine va_get (D := D) (ci := 12) (v := .int 0) (C := R_Mo) (T := F_Mo) (N := 55) hx hb hts i_Mo hown hK.1 hP 0 rfl rfl 46 (by decide) (hts _ k_1064) (fun _ h9 => h9) rfl d_Mo_later_27 ?_
        refine lv_iload_n hx hb d_Mo_later_30 rfl (lv_at hl 1 rfl) ?_
        refine lv_iadd hx hb d_Mo_later_31 ?_
        refine nz_ctopi (v := p0) (Int32.zero_add _) ?_
        refine va_put (D := D) (ci := 12) (v := .int p0) (ty := .int) (C := R_Mo) (T := F_Mo) (N := 55) hx hb hts i_Mo t_Mo t_Mo_ok n_Mo hown hK.1 hP hD hS 0 rfl rfl 46 (by decide) (hts _ k_1064) (fun _ h9 => h9) rfl (by decide +kernel) rfl rfl (Nat.le_of_ble_eq_true rfl) d_Mo_later_32 (fun H locs hP hD hS => ?_)
        have hP : va_P D nz_cl [(m0_, .inr (12, [.ref m0, .ref m1, .int 0, .int 0, .int 0, .int (-1), .int 0, .int 0, .int 0, .int 0, .long 0, .ref m11, .ref m12, .ref m13, .ref m14, .ref m15, .ref m16, .ref m17, .ref m18, .ref m19, .ref m20, .ref m21, .ref m22, .ref m23, .ref m24, .ref m25, .ref m26, .ref m27, .ref m28, .ref m29, .ref m30, .ref m31, .ref m32, .ref m33, .ref m34, .ref m35, .ref m36, .ref m37, .ref m38, .int 0, .int 0, .ref m41, .ref m42, .ref m43, .ref m44, .int 0, .int p0, .ref m47, .ref m48, .ref m49, .ref m50, .ref m51, .ref m52, .ref m53, .ref m54]))] H := hP
        have hD : va_D A [(m0_, .inr (12, [.ref m0, .ref m1, .int 0, .int 0, .int 0, .int (-1), .int 0, .int 0, .int 0, .int 0, .long 0, .ref m11, .ref m12, .ref m13, .ref m14, .ref m15, .ref m16, .ref m17, .ref m18, .ref m19, .ref m20, .ref m21, .ref m22, .ref m23, .ref m24, .ref m25, .ref m26, .ref m27, .ref m28, .ref m29, .ref m30, .ref m31, .ref m32, .ref m33, .ref m34, .ref m35, .ref m36, .ref m37, .ref m38, .int 0, .int 0, .ref m41, .ref m42, .ref m43, .ref m44, .int 0, .int p0, .ref m47, .ref m48, .ref m49, .ref m50, .ref m51, .ref m52, .ref m53, .ref m54]))] := hD
        refine lv_aload_n hx hb d_Mo_later_35 rfl (lv_at hl 0 rfl) ?_
        refine va_get (D := D) (ci := 12) (v := .int p0) (C := R_Mo) (T := F_Mo) (N := 55) hx hb hts i_Mo hown hK.1 hP 0 rfl rfl 46 (by decide) (hts _ k_1064) (fun _ h9 => h9) rfl d_Mo_later_36 ?_
        exact nz_reti C0 (hP.sub (ws' := [(m0_, .inr (12, [.ref m0, .ref m1, .int 0, .int 0, .int 0, .int (-1), .int 0, .int 0, .int 0, .int 0, .long 0, .ref m11, .ref m12, .ref m13, .ref m14, .ref m15, .ref m16, .ref m17, .ref m18, .ref m19, .ref m20, .ref m21, .ref m22, .ref m23, .ref m24, .ref m25, .ref m26, .ref m27, .ref m28, .ref m29, .ref m30, .ref m31, .ref m32, .ref m33, .ref m34, .ref m35, .ref m36, .ref m37, .ref m38, .int 0, .int 0, .ref m41, .ref m42, .ref m43, .ref m44, .int 0, .int p0, .ref m47, .ref m48, .ref m49, .ref m50, .ref m51, .ref m52, .ref m53, .ref m54]))]) [0] rfl) (hD.sub (ws' := [(m0_, .inr (12, [.ref m0, .ref m1, .int 0, .int 0, .int 0, .int (-1), .int 0, .int 0, .int 0, .int 0, .long 0, .ref m11, .ref m12, .ref m13, .ref m14, .ref m15, .ref m16, .ref m17, .ref m18, .ref m19, .ref m20, .ref m21, .ref m22, .ref m23, .ref m24, .ref m25, .ref m26, .ref m27, .ref m28, .ref m29, .ref m30, .ref m31, .ref m32, .ref m33, .ref m34, .ref m35, .ref m36, .ref m37, .ref m38, .int 0, .int 0, .ref m41, .ref m42, .ref m43, .ref m44, .int 0, .int p0, .ref m47, .ref m48, .ref m49, .ref m50, .ref m51, .ref m52, .ref m53, .ref m54]))]) [0] (by decide) rfl) hS ⟨p0, (by unfold nz_lf; (try first | rw [if_pos c_3] | rw [if_neg c_3] | rw [if_pos (Int32.not_le.mp c_3)] | rw [if_neg (Int32.not_lt.mpr c_3)] | rw [if_pos (Decidable.not_not.mp c_3)]); (try first | rw [if_pos c_5] | rw [if_neg c_5] | rw [if_pos (Int32.not_le.mp c_5)] | rw [if_neg (Int32.not_lt.mpr c_5)] | rw [if_pos (Decidable.not_not.mp c_5)]); (try first | rw [if_pos c_8] | rw [if_neg c_8] | rw [if_pos (Int32.not_le.mp c_8)] | rw [if_neg (Int32.not_lt.mpr c_8)] | rw [if_pos (Decidable.not_not.mp c_8)])), rfl⟩ d_Mo_later_39
      · exfalso; have z0 : (0 : Int32).toInt = 0 := (by decide +kernel); have z1 : (1000 : Int32).toInt = 1000 := (by decide +kernel); have z2 : (100000 : Int32).toInt = 100000 := (by decide +kernel); simp only [Int32.lt_iff_toInt_lt, Int32.le_iff_toInt_le, ← Int32.toInt_inj] at c_3 c_5 c_8; omega
set_option maxHeartbeats 4000000 in
set_option maxRecDepth 100000 in
theorem c_Mo_end (l : Launch) (D : va_G) (cB cI cJ : ClassId) (m0_ : Nat) (p0 : Int32) (m0 : Nat) (m1 : Nat) (m11 : Nat) (m12 : Nat) (m13 : Nat) (m14 : Nat) (m15 : Nat) (m16 : Nat) (m17 : Nat) (m18 : Nat) (m19 : Nat) (m20 : Nat) (m21 : Nat) (m22 : Nat) (m23 : Nat) (m24 : Nat) (m25 : Nat) (m26 : Nat) (m27 : Nat) (m28 : Nat) (m29 : Nat) (m30 : Nat) (m31 : Nat) (m32 : Nat) (m33 : Nat) (m34 : Nat) (m35 : Nat) (m36 : Nat) (m37 : Nat) (m38 : Nat) (m41 : Nat) (m42 : Nat) (m43 : Nat) (m44 : Nat) (m47 : Nat) (m48 : Nat) (m49 : Nat) (m50 : Nat) (m51 : Nat) (m52 : Nat) (m53 : Nat) (m54 : Nat) : nz_Ci l D cB cI cJ nz_x0 y_Mo_end b_Mo_end 2 (some .int) { frames := 0, cells := 0, slots := 0, locals := 0 } [.ref m0_, .int p0] [(m0_, .inr (12, [.ref m0, .ref m1, .int 0, .int 0, .int 0, .int (-1), .int 0, .int 0, .int 0, .int 0, .long 0, .ref m11, .ref m12, .ref m13, .ref m14, .ref m15, .ref m16, .ref m17, .ref m18, .ref m19, .ref m20, .ref m21, .ref m22, .ref m23, .ref m24, .ref m25, .ref m26, .ref m27, .ref m28, .ref m29, .ref m30, .ref m31, .ref m32, .ref m33, .ref m34, .ref m35, .ref m36, .ref m37, .ref m38, .int 0, .int 0, .ref m41, .ref m42, .ref m43, .ref m44, .int 0, .int 0, .ref m47, .ref m48, .ref m49, .ref m50, .ref m51, .ref m52, .ref m53, .ref m54]))] (fun r w => ∃ (zt : Int32), r = nz_en p0 ∧ w = [(m0_, .inr (12, [.ref m0, .ref m1, .int zt, .int 0, .int 0, .int (-1), .int 0, .int 0, .int 0, .int 0, .long 0, .ref m11, .ref m12, .ref m13, .ref m14, .ref m15, .ref m16, .ref m17, .ref m18, .ref m19, .ref m20, .ref m21, .ref m22, .ref m23, .ref m24, .ref m25, .ref m26, .ref m27, .ref m28, .ref m29, .ref m30, .ref m31, .ref m32, .ref m33, .ref m34, .ref m35, .ref m36, .ref m37, .ref m38, .int 0, .int 0, .ref m41, .ref m42, .ref m43, .ref m44, .int 0, .int 0, .ref m47, .ref m48, .ref m49, .ref m50, .ref m51, .ref m52, .ref m53, .ref m54]))]) := by
  refine nz_Ci.mk (by decide) (Nat.le_of_ble_eq_true rfl) ?_
  intro p e s m below meth c A ls C0 hnm hP hD hS hA hX hl
  have C0 : nz_Cx p s m _ meth c b_Mo_end 2 (some .int) R_Mo D cB cI cJ := C0
  obtain ⟨hx, hb, hr, hml, hown, hts, hlk, hK⟩ := id C0
  have hl : lv_has ls 2 [(0, .ref m0_), (1, .int p0)] := hl
  refine lv_iload_n hx hb d_Mo_end_0 rfl (lv_at hl 1 rfl) ?_
  refine lv_if_lt (tgt := 12) hx hb d_Mo_end_1 (by decide) (fun c_1 => ?_) (fun c_1 => ?_)
  · refine lv_iconst (v := (-1)) hx hb d_Mo_end_12 (by decide +kernel) ?_
    exact nz_reti C0 (hP.sub (ws' := [(m0_, .inr (12, [.ref m0, .ref m1, .int 0, .int 0, .int 0, .int (-1), .int 0, .int 0, .int 0, .int 0, .long 0, .ref m11, .ref m12, .ref m13, .ref m14, .ref m15, .ref m16, .ref m17, .ref m18, .ref m19, .ref m20, .ref m21, .ref m22, .ref m23, .ref m24, .ref m25, .ref m26, .ref m27, .ref m28, .ref m29, .ref m30, .ref m31, .ref m32, .ref m33, .ref m34, .ref m35, .ref m36, .ref m37, .ref m38, .int 0, .int 0, .ref m41, .ref m42, .ref m43, .ref m44, .int 0, .int 0, .ref m47, .ref m48, .ref m49, .ref m50, .ref m51, .ref m52, .ref m53, .ref m54]))]) [0] rfl) (hD.sub (ws' := [(m0_, .inr (12, [.ref m0, .ref m1, .int 0, .int 0, .int 0, .int (-1), .int 0, .int 0, .int 0, .int 0, .long 0, .ref m11, .ref m12, .ref m13, .ref m14, .ref m15, .ref m16, .ref m17, .ref m18, .ref m19, .ref m20, .ref m21, .ref m22, .ref m23, .ref m24, .ref m25, .ref m26, .ref m27, .ref m28, .ref m29, .ref m30, .ref m31, .ref m32, .ref m33, .ref m34, .ref m35, .ref m36, .ref m37, .ref m38, .int 0, .int 0, .ref m41, .ref m42, .ref m43, .ref m44, .int 0, .int 0, .ref m47, .ref m48, .ref m49, .ref m50, .ref m51, .ref m52, .ref m53, .ref m54]))]) [0] (by decide) rfl) hS ⟨0, (by unfold nz_en; (try first | rw [if_pos c_1] | rw [if_neg c_1] | rw [if_pos (Int32.not_le.mp c_1)] | rw [if_neg (Int32.not_lt.mpr c_1)] | rw [if_pos (Decidable.not_not.mp c_1)])), rfl⟩ d_Mo_end_13
  · refine lv_iload_n hx hb d_Mo_end_4 rfl (lv_at hl 1 rfl) ?_
    refine lv_aload_n hx hb d_Mo_end_5 rfl (lv_at hl 0 rfl) ?_
    refine va_get (D := D) (ci := 12) (v := .int 0) (C := R_Mo) (T := F_Mo) (N := 55) hx hb hts i_Mo hown hK.1 hP 0 rfl rfl 2 (by decide) (hts _ k_1020) (fun _ h9 => h9) rfl d_Mo_end_6 ?_
    refine lv_icmp_le (tgt := 14) hx hb d_Mo_end_9 (by decide) (fun c_2 => ?_) (fun c_2 => ?_)
    · refine lv_aload_n hx hb d_Mo_end_14 rfl (lv_at hl 0 rfl) ?_
      refine lv_iload_n hx hb d_Mo_end_15 rfl (lv_at hl 1 rfl) ?_
      refine va_put (D := D) (ci := 12) (v := .int p0) (ty := .int) (C := R_Mo) (T := F_Mo) (N := 55) hx hb hts i_Mo t_Mo t_Mo_ok n_Mo hown hK.1 hP hD hS 0 rfl rfl 2 (by decide) (hts _ k_1020) (fun _ h9 => h9) rfl (by decide +kernel) rfl rfl (Nat.le_of_ble_eq_true rfl) d_Mo_end_16 (fun H locs hP hD hS => ?_)
      have hP : va_P D nz_cl [(m0_, .inr (12, [.ref m0, .ref m1, .int p0, .int 0, .int 0, .int (-1), .int 0, .int 0, .int 0, .int 0, .long 0, .ref m11, .ref m12, .ref m13, .ref m14, .ref m15, .ref m16, .ref m17, .ref m18, .ref m19, .ref m20, .ref m21, .ref m22, .ref m23, .ref m24, .ref m25, .ref m26, .ref m27, .ref m28, .ref m29, .ref m30, .ref m31, .ref m32, .ref m33, .ref m34, .ref m35, .ref m36, .ref m37, .ref m38, .int 0, .int 0, .ref m41, .ref m42, .ref m43, .ref m44, .int 0, .int 0, .ref m47, .ref m48, .ref m49, .ref m50, .ref m51, .ref m52, .ref m53, .ref m54]))] H := hP
      have hD : va_D A [(m0_, .inr (12, [.ref m0, .ref m1, .int p0, .int 0, .int 0, .int (-1), .int 0, .int 0, .int 0, .int 0, .long 0, .ref m11, .ref m12, .ref m13, .ref m14, .ref m15, .ref m16, .ref m17, .ref m18, .ref m19, .ref m20, .ref m21, .ref m22, .ref m23, .ref m24, .ref m25, .ref m26, .ref m27, .ref m28, .ref m29, .ref m30, .ref m31, .ref m32, .ref m33, .ref m34, .ref m35, .ref m36, .ref m37, .ref m38, .int 0, .int 0, .ref m41, .ref m42, .ref m43, .ref m44, .int 0, .int 0, .ref m47, .ref m48, .ref m49, .ref m50, .ref m51, .ref m52, .ref m53, .ref m54]))] := hD
      refine lv_iload_n hx hb d_Mo_end_19 rfl (lv_at hl 1 rfl) ?_
      exact nz_reti C0 (hP.sub (ws' := [(m0_, .inr (12, [.ref m0, .ref m1, .int p0, .int 0, .int 0, .int (-1), .int 0, .int 0, .int 0, .int 0, .long 0, .ref m11, .ref m12, .ref m13, .ref m14, .ref m15, .ref m16, .ref m17, .ref m18, .ref m19, .ref m20, .ref m21, .ref m22, .ref m23, .ref m24, .ref m25, .ref m26, .ref m27, .ref m28, .ref m29, .ref m30, .ref m31, .ref m32, .ref m33, .ref m34, .ref m35, .ref m36, .ref m37, .ref m38, .int 0, .int 0, .ref m41, .ref m42, .ref m43, .ref m44, .int 0, .int 0, .ref m47, .ref m48, .ref m49, .ref m50, .ref m51, .ref m52, .ref m53, .ref m54]))]) [0] rfl) (hD.sub (ws' := [(m0_, .inr (12, [.ref m0, .ref m1, .int p0, .int 0, .int 0, .int (-1), .int 0, .int 0, .int 0, .int 0, .long 0, .ref m11, .ref m12, .ref m13, .ref m14, .ref m15, .ref m16, .ref m17, .ref m18, .ref m19, .ref m20, .ref m21, .ref m22, .ref m23, .ref m24, .ref m25, .ref m26, .ref m27, .ref m28, .ref m29, .ref m30, .ref m31, .ref m32, .ref m33, .ref m34, .ref m35, .ref m36, .ref m37, .ref m38, .int 0, .int 0, .ref m41, .ref m42, .ref m43, .ref m44, .int 0, .int 0, .ref m47, .ref m48, .ref m49, .ref m50, .ref m51, .ref m52, .ref m53, .ref m54]))]) [0] (by decide) rfl) hS ⟨p0, (by unfold nz_en; (try first | rw [if_pos c_1] | rw [if_neg c_1] | rw [if_pos (Int32.not_le.mp c_1)] | rw [if_neg (Int32.not_lt.mpr c_1)] | rw [if_pos (Decidable.not_not.mp c_1)]); (try first | rw [if_pos c_2] | rw [if_neg c_2] | rw [if_pos (Int32.not_le.mp c_2)] | rw [if_neg (Int32.not_lt.mpr c_2)] | rw [if_pos (Decidable.not_not.mp c_2)])), rfl⟩ d_Mo_end_20
    · refine lv_iconst (v := (-1)) hx hb d_Mo_end_12 (by decide +kernel) ?_
      exact nz_reti C0 (hP.sub (ws' := [(m0_, .inr (12, [.ref m0, .ref m1, .int 0, .int 0, .int 0, .int (-1), .int 0, .int 0, .int 0, .int 0, .long 0, .ref m11, .ref m12, .ref m13, .ref m14, .ref m15, .ref m16, .ref m17, .ref m18, .ref m19, .ref m20, .ref m21, .ref m22, .ref m23, .ref m24, .ref m25, .ref m26, .ref m27, .ref m28, .ref m29, .ref m30, .ref m31, .ref m32, .ref m33, .ref m34, .ref m35, .ref m36, .ref m37, .ref m38, .int 0, .int 0, .ref m41, .ref m42, .ref m43, .ref m44, .int 0, .int 0, .ref m47, .ref m48, .ref m49, .ref m50, .ref m51, .ref m52, .ref m53, .ref m54]))]) [0] rfl) (hD.sub (ws' := [(m0_, .inr (12, [.ref m0, .ref m1, .int 0, .int 0, .int 0, .int (-1), .int 0, .int 0, .int 0, .int 0, .long 0, .ref m11, .ref m12, .ref m13, .ref m14, .ref m15, .ref m16, .ref m17, .ref m18, .ref m19, .ref m20, .ref m21, .ref m22, .ref m23, .ref m24, .ref m25, .ref m26, .ref m27, .ref m28, .ref m29, .ref m30, .ref m31, .ref m32, .ref m33, .ref m34, .ref m35, .ref m36, .ref m37, .ref m38, .int 0, .int 0, .ref m41, .ref m42, .ref m43, .ref m44, .int 0, .int 0, .ref m47, .ref m48, .ref m49, .ref m50, .ref m51, .ref m52, .ref m53, .ref m54]))]) [0] (by decide) rfl) hS ⟨0, (by unfold nz_en; (try first | rw [if_pos c_1] | rw [if_neg c_1] | rw [if_pos (Int32.not_le.mp c_1)] | rw [if_neg (Int32.not_lt.mpr c_1)] | rw [if_pos (Decidable.not_not.mp c_1)]); (try first | rw [if_pos c_2] | rw [if_neg c_2] | rw [if_pos (Int32.not_le.mp c_2)] | rw [if_neg (Int32.not_lt.mpr c_2)] | rw [if_pos (Decidable.not_not.mp c_2)])), rfl⟩ d_Mo_end_13
set_option maxHeartbeats 4000000 in
set_option maxRecDepth 100000 in
theorem c_Mo_fault (l : Launch) (D : va_G) (cB cI cJ : ClassId) (m0_ : Nat) (p0 : Int32) (m0 : Nat) (m1 : Nat) (m11 : Nat) (m12 : Nat) (m13 : Nat) (m14 : Nat) (m15 : Nat) (m16 : Nat) (m17 : Nat) (m18 : Nat) (m19 : Nat) (m20 : Nat) (m21 : Nat) (m22 : Nat) (m23 : Nat) (m24 : Nat) (m25 : Nat) (m26 : Nat) (m27 : Nat) (m28 : Nat) (m29 : Nat) (m30 : Nat) (m31 : Nat) (m32 : Nat) (m33 : Nat) (m34 : Nat) (m35 : Nat) (m36 : Nat) (m37 : Nat) (m38 : Nat) (m41 : Nat) (m42 : Nat) (m43 : Nat) (m44 : Nat) (m47 : Nat) (m48 : Nat) (m49 : Nat) (m50 : Nat) (m51 : Nat) (m52 : Nat) (m53 : Nat) (m54 : Nat) : nz_Ci l D cB cI cJ nz_x0 y_Mo_fault b_Mo_fault 2 (some .int) { frames := 0, cells := 0, slots := 0, locals := 0 } [.ref m0_, .int p0] [(m0_, .inr (12, [.ref m0, .ref m1, .int 0, .int 0, .int 0, .int (-1), .int 0, .int 0, .int 0, .int 0, .long 0, .ref m11, .ref m12, .ref m13, .ref m14, .ref m15, .ref m16, .ref m17, .ref m18, .ref m19, .ref m20, .ref m21, .ref m22, .ref m23, .ref m24, .ref m25, .ref m26, .ref m27, .ref m28, .ref m29, .ref m30, .ref m31, .ref m32, .ref m33, .ref m34, .ref m35, .ref m36, .ref m37, .ref m38, .int 0, .int 0, .ref m41, .ref m42, .ref m43, .ref m44, .int 0, .int 0, .ref m47, .ref m48, .ref m49, .ref m50, .ref m51, .ref m52, .ref m53, .ref m54]))] (fun r w => r = nz_fl p0 ∧ w = [(m0_, .inr (12, [.ref m0, .ref m1, .int 0, .int 0, .int 0, .int (-1), .int 0, .int 0, .int 0, .int 0, .long 0, .ref m11, .ref m12, .ref m13, .ref m14, .ref m15, .ref m16, .ref m17, .ref m18, .ref m19, .ref m20, .ref m21, .ref m22, .ref m23, .ref m24, .ref m25, .ref m26, .ref m27, .ref m28, .ref m29, .ref m30, .ref m31, .ref m32, .ref m33, .ref m34, .ref m35, .ref m36, .ref m37, .ref m38, .int 0, .int 0, .ref m41, .ref m42, .ref m43, .ref m44, .int 0, .int 0, .ref m47, .ref m48, .ref m49, .ref m50, .ref m51, .ref m52, .ref m53, .ref m54]))]) := by
  refine nz_Ci.mk (by decide) (Nat.le_of_ble_eq_true rfl) ?_
  intro p e s m below meth c A ls C0 hnm hP hD hS hA hX hl
  have C0 : nz_Cx p s m _ meth c b_Mo_fault 2 (some .int) R_Mo D cB cI cJ := C0
  obtain ⟨hx, hb, hr, hml, hown, hts, hlk, hK⟩ := id C0
  have hl : lv_has ls 2 [(0, .ref m0_), (1, .int p0)] := hl
  refine lv_iload_n hx hb d_Mo_fault_0 rfl (lv_at hl 1 rfl) ?_
  refine lv_if_ne (tgt := 11) hx hb d_Mo_fault_1 (by decide) (fun c_1 => ?_) (fun c_1 => ?_)
  · refine lv_iload_n hx hb d_Mo_fault_11 rfl (lv_at hl 1 rfl) ?_
    refine lv_iconst (v := 1) hx hb d_Mo_fault_12 (by decide +kernel) ?_
    refine lv_icmp_ne (tgt := 23) hx hb d_Mo_fault_13 (by decide) (fun c_2 => ?_) (fun c_2 => ?_)
    · refine lv_iconst (v := (-1)) hx hb d_Mo_fault_23 (by decide +kernel) ?_
      exact nz_reti C0 (hP.sub (ws' := [(m0_, .inr (12, [.ref m0, .ref m1, .int 0, .int 0, .int 0, .int (-1), .int 0, .int 0, .int 0, .int 0, .long 0, .ref m11, .ref m12, .ref m13, .ref m14, .ref m15, .ref m16, .ref m17, .ref m18, .ref m19, .ref m20, .ref m21, .ref m22, .ref m23, .ref m24, .ref m25, .ref m26, .ref m27, .ref m28, .ref m29, .ref m30, .ref m31, .ref m32, .ref m33, .ref m34, .ref m35, .ref m36, .ref m37, .ref m38, .int 0, .int 0, .ref m41, .ref m42, .ref m43, .ref m44, .int 0, .int 0, .ref m47, .ref m48, .ref m49, .ref m50, .ref m51, .ref m52, .ref m53, .ref m54]))]) [0] rfl) (hD.sub (ws' := [(m0_, .inr (12, [.ref m0, .ref m1, .int 0, .int 0, .int 0, .int (-1), .int 0, .int 0, .int 0, .int 0, .long 0, .ref m11, .ref m12, .ref m13, .ref m14, .ref m15, .ref m16, .ref m17, .ref m18, .ref m19, .ref m20, .ref m21, .ref m22, .ref m23, .ref m24, .ref m25, .ref m26, .ref m27, .ref m28, .ref m29, .ref m30, .ref m31, .ref m32, .ref m33, .ref m34, .ref m35, .ref m36, .ref m37, .ref m38, .int 0, .int 0, .ref m41, .ref m42, .ref m43, .ref m44, .int 0, .int 0, .ref m47, .ref m48, .ref m49, .ref m50, .ref m51, .ref m52, .ref m53, .ref m54]))]) [0] (by decide) rfl) hS ⟨(by unfold nz_fl; (try first | rw [if_pos c_1] | rw [if_neg c_1] | rw [if_pos (Int32.not_le.mp c_1)] | rw [if_neg (Int32.not_lt.mpr c_1)] | rw [if_pos (Decidable.not_not.mp c_1)]); (try first | rw [if_pos c_2] | rw [if_neg c_2] | rw [if_pos (Int32.not_le.mp c_2)] | rw [if_neg (Int32.not_lt.mpr c_2)] | rw [if_pos (Decidable.not_not.mp c_2)])), rfl⟩ d_Mo_fault_24
    · refine lv_aload_n hx hb d_Mo_fault_16 rfl (lv_at hl 0 rfl) ?_
      refine va_get (D := D) (ci := 12) (v := .int (-1)) (C := R_Mo) (T := F_Mo) (N := 55) hx hb hts i_Mo hown hK.1 hP 0 rfl rfl 5 (by decide) (hts _ k_1023) (fun _ h9 => h9) rfl d_Mo_fault_17 ?_
      refine lv_goto (tgt := 24) hx hb d_Mo_fault_20 (by decide) ?_
      exact nz_reti C0 (hP.sub (ws' := [(m0_, .inr (12, [.ref m0, .ref m1, .int 0, .int 0, .int 0, .int (-1), .int 0, .int 0, .int 0, .int 0, .long 0, .ref m11, .ref m12, .ref m13, .ref m14, .ref m15, .ref m16, .ref m17, .ref m18, .ref m19, .ref m20, .ref m21, .ref m22, .ref m23, .ref m24, .ref m25, .ref m26, .ref m27, .ref m28, .ref m29, .ref m30, .ref m31, .ref m32, .ref m33, .ref m34, .ref m35, .ref m36, .ref m37, .ref m38, .int 0, .int 0, .ref m41, .ref m42, .ref m43, .ref m44, .int 0, .int 0, .ref m47, .ref m48, .ref m49, .ref m50, .ref m51, .ref m52, .ref m53, .ref m54]))]) [0] rfl) (hD.sub (ws' := [(m0_, .inr (12, [.ref m0, .ref m1, .int 0, .int 0, .int 0, .int (-1), .int 0, .int 0, .int 0, .int 0, .long 0, .ref m11, .ref m12, .ref m13, .ref m14, .ref m15, .ref m16, .ref m17, .ref m18, .ref m19, .ref m20, .ref m21, .ref m22, .ref m23, .ref m24, .ref m25, .ref m26, .ref m27, .ref m28, .ref m29, .ref m30, .ref m31, .ref m32, .ref m33, .ref m34, .ref m35, .ref m36, .ref m37, .ref m38, .int 0, .int 0, .ref m41, .ref m42, .ref m43, .ref m44, .int 0, .int 0, .ref m47, .ref m48, .ref m49, .ref m50, .ref m51, .ref m52, .ref m53, .ref m54]))]) [0] (by decide) rfl) hS ⟨(by unfold nz_fl; (try first | rw [if_pos c_1] | rw [if_neg c_1] | rw [if_pos (Int32.not_le.mp c_1)] | rw [if_neg (Int32.not_lt.mpr c_1)] | rw [if_pos (Decidable.not_not.mp c_1)]); (try first | rw [if_pos c_2] | rw [if_neg c_2] | rw [if_pos (Int32.not_le.mp c_2)] | rw [if_neg (Int32.not_lt.mpr c_2)] | rw [if_pos (Decidable.not_not.mp c_2)])), rfl⟩ d_Mo_fault_24
  · refine lv_aload_n hx hb d_Mo_fault_4 rfl (lv_at hl 0 rfl) ?_
    refine va_get (D := D) (ci := 12) (v := .int 0) (C := R_Mo) (T := F_Mo) (N := 55) hx hb hts i_Mo hown hK.1 hP 0 rfl rfl 4 (by decide) (hts _ k_1022) (fun _ h9 => h9) rfl d_Mo_fault_5 ?_
    refine lv_goto (tgt := 24) hx hb d_Mo_fault_8 (by decide) ?_
    exact nz_reti C0 (hP.sub (ws' := [(m0_, .inr (12, [.ref m0, .ref m1, .int 0, .int 0, .int 0, .int (-1), .int 0, .int 0, .int 0, .int 0, .long 0, .ref m11, .ref m12, .ref m13, .ref m14, .ref m15, .ref m16, .ref m17, .ref m18, .ref m19, .ref m20, .ref m21, .ref m22, .ref m23, .ref m24, .ref m25, .ref m26, .ref m27, .ref m28, .ref m29, .ref m30, .ref m31, .ref m32, .ref m33, .ref m34, .ref m35, .ref m36, .ref m37, .ref m38, .int 0, .int 0, .ref m41, .ref m42, .ref m43, .ref m44, .int 0, .int 0, .ref m47, .ref m48, .ref m49, .ref m50, .ref m51, .ref m52, .ref m53, .ref m54]))]) [0] rfl) (hD.sub (ws' := [(m0_, .inr (12, [.ref m0, .ref m1, .int 0, .int 0, .int 0, .int (-1), .int 0, .int 0, .int 0, .int 0, .long 0, .ref m11, .ref m12, .ref m13, .ref m14, .ref m15, .ref m16, .ref m17, .ref m18, .ref m19, .ref m20, .ref m21, .ref m22, .ref m23, .ref m24, .ref m25, .ref m26, .ref m27, .ref m28, .ref m29, .ref m30, .ref m31, .ref m32, .ref m33, .ref m34, .ref m35, .ref m36, .ref m37, .ref m38, .int 0, .int 0, .ref m41, .ref m42, .ref m43, .ref m44, .int 0, .int 0, .ref m47, .ref m48, .ref m49, .ref m50, .ref m51, .ref m52, .ref m53, .ref m54]))]) [0] (by decide) rfl) hS ⟨(by unfold nz_fl; (try first | rw [if_pos c_1] | rw [if_neg c_1] | rw [if_pos (Int32.not_le.mp c_1)] | rw [if_neg (Int32.not_lt.mpr c_1)] | rw [if_pos (Decidable.not_not.mp c_1)])), rfl⟩ d_Mo_fault_24
set_option maxHeartbeats 4000000 in
set_option maxRecDepth 100000 in
theorem c_Mo_about (l : Launch) (D : va_G) (cB cI cJ : ClassId) (m0_ : Nat) (p0 : Int32) (m0 : Nat) (m1 : Nat) (m11 : Nat) (m12 : Nat) (m13 : Nat) (m14 : Nat) (m15 : Nat) (m16 : Nat) (m17 : Nat) (m18 : Nat) (m19 : Nat) (m20 : Nat) (m21 : Nat) (m22 : Nat) (m23 : Nat) (m24 : Nat) (m25 : Nat) (m26 : Nat) (m27 : Nat) (m28 : Nat) (m29 : Nat) (m30 : Nat) (m31 : Nat) (m32 : Nat) (m33 : Nat) (m34 : Nat) (m35 : Nat) (m36 : Nat) (m37 : Nat) (m38 : Nat) (m41 : Nat) (m42 : Nat) (m43 : Nat) (m44 : Nat) (m47 : Nat) (m48 : Nat) (m49 : Nat) (m50 : Nat) (m51 : Nat) (m52 : Nat) (m53 : Nat) (m54 : Nat) : nz_Ci l D cB cI cJ nz_x0 y_Mo_about b_Mo_about 2 (some .int) { frames := 0, cells := 0, slots := 0, locals := 0 } [.ref m0_, .int p0] [(m0_, .inr (12, [.ref m0, .ref m1, .int 0, .int 0, .int 0, .int (-1), .int 0, .int 0, .int 0, .int 0, .long 0, .ref m11, .ref m12, .ref m13, .ref m14, .ref m15, .ref m16, .ref m17, .ref m18, .ref m19, .ref m20, .ref m21, .ref m22, .ref m23, .ref m24, .ref m25, .ref m26, .ref m27, .ref m28, .ref m29, .ref m30, .ref m31, .ref m32, .ref m33, .ref m34, .ref m35, .ref m36, .ref m37, .ref m38, .int 0, .int 0, .ref m41, .ref m42, .ref m43, .ref m44, .int 0, .int 0, .ref m47, .ref m48, .ref m49, .ref m50, .ref m51, .ref m52, .ref m53, .ref m54])), (m11, .inl (cI, 2, .inl (fun _ => 0))), (m12, .inl (cI, 2, .inl (fun _ => 0))), (m13, .inl (cI, 2, .inl (fun _ => 0))), (m14, .inl (cI, 2, .inl (fun _ => 0))), (m15, .inl (cI, 2, .inl (fun _ => 0))), (m16, .inl (cI, 2, .inl (fun _ => 0)))] (fun r w => r = nz_ab p0 ∧ w = [(m0_, .inr (12, [.ref m0, .ref m1, .int 0, .int 0, .int 0, .int (-1), .int 0, .int 0, .int 0, .int 0, .long 0, .ref m11, .ref m12, .ref m13, .ref m14, .ref m15, .ref m16, .ref m17, .ref m18, .ref m19, .ref m20, .ref m21, .ref m22, .ref m23, .ref m24, .ref m25, .ref m26, .ref m27, .ref m28, .ref m29, .ref m30, .ref m31, .ref m32, .ref m33, .ref m34, .ref m35, .ref m36, .ref m37, .ref m38, .int 0, .int 0, .ref m41, .ref m42, .ref m43, .ref m44, .int 0, .int 0, .ref m47, .ref m48, .ref m49, .ref m50, .ref m51, .ref m52, .ref m53, .ref m54])), (m11, .inl (cI, 2, .inl (fun _ => 0))), (m12, .inl (cI, 2, .inl (fun _ => 0))), (m13, .inl (cI, 2, .inl (fun _ => 0))), (m14, .inl (cI, 2, .inl (fun _ => 0))), (m15, .inl (cI, 2, .inl (fun _ => 0))), (m16, .inl (cI, 2, .inl (fun _ => 0)))]) := by
  refine nz_Ci.mk (by decide) (Nat.le_of_ble_eq_true rfl) ?_
  intro p e s m below meth c A ls C0 hnm hP hD hS hA hX hl
  have C0 : nz_Cx p s m _ meth c b_Mo_about 2 (some .int) R_Mo D cB cI cJ := C0
  obtain ⟨hx, hb, hr, hml, hown, hts, hlk, hK⟩ := id C0
  have hl : lv_has ls 2 [(0, .ref m0_), (1, .int p0)] := hl
  refine lv_iload_n hx hb d_Mo_about_0 rfl (lv_at hl 1 rfl) ?_
  by_cases c_1 : p0.toInt < 0 ∨ 8 < p0.toInt
  · refine lv_tableOut (tgt := 127) hx hb d_Mo_about_1 c_1 (by decide) ?_
    refine lv_iconst (v := (-1)) hx hb d_Mo_about_127 (by decide +kernel) ?_
    exact nz_reti C0 (hP.sub (ws' := [(m0_, .inr (12, [.ref m0, .ref m1, .int 0, .int 0, .int 0, .int (-1), .int 0, .int 0, .int 0, .int 0, .long 0, .ref m11, .ref m12, .ref m13, .ref m14, .ref m15, .ref m16, .ref m17, .ref m18, .ref m19, .ref m20, .ref m21, .ref m22, .ref m23, .ref m24, .ref m25, .ref m26, .ref m27, .ref m28, .ref m29, .ref m30, .ref m31, .ref m32, .ref m33, .ref m34, .ref m35, .ref m36, .ref m37, .ref m38, .int 0, .int 0, .ref m41, .ref m42, .ref m43, .ref m44, .int 0, .int 0, .ref m47, .ref m48, .ref m49, .ref m50, .ref m51, .ref m52, .ref m53, .ref m54])), (m11, .inl (cI, 2, .inl (fun _ => 0))), (m12, .inl (cI, 2, .inl (fun _ => 0))), (m13, .inl (cI, 2, .inl (fun _ => 0))), (m14, .inl (cI, 2, .inl (fun _ => 0))), (m15, .inl (cI, 2, .inl (fun _ => 0))), (m16, .inl (cI, 2, .inl (fun _ => 0)))]) [0, 1, 2, 3, 4, 5, 6] rfl) (hD.sub (ws' := [(m0_, .inr (12, [.ref m0, .ref m1, .int 0, .int 0, .int 0, .int (-1), .int 0, .int 0, .int 0, .int 0, .long 0, .ref m11, .ref m12, .ref m13, .ref m14, .ref m15, .ref m16, .ref m17, .ref m18, .ref m19, .ref m20, .ref m21, .ref m22, .ref m23, .ref m24, .ref m25, .ref m26, .ref m27, .ref m28, .ref m29, .ref m30, .ref m31, .ref m32, .ref m33, .ref m34, .ref m35, .ref m36, .ref m37, .ref m38, .int 0, .int 0, .ref m41, .ref m42, .ref m43, .ref m44, .int 0, .int 0, .ref m47, .ref m48, .ref m49, .ref m50, .ref m51, .ref m52, .ref m53, .ref m54])), (m11, .inl (cI, 2, .inl (fun _ => 0))), (m12, .inl (cI, 2, .inl (fun _ => 0))), (m13, .inl (cI, 2, .inl (fun _ => 0))), (m14, .inl (cI, 2, .inl (fun _ => 0))), (m15, .inl (cI, 2, .inl (fun _ => 0))), (m16, .inl (cI, 2, .inl (fun _ => 0)))]) [0, 1, 2, 3, 4, 5, 6] (by decide) rfl) hS ⟨(by unfold nz_ab; (try first | rw [if_pos c_1] | rw [if_neg c_1] | rw [if_pos (Int32.not_le.mp c_1)] | rw [if_neg (Int32.not_lt.mpr c_1)] | rw [if_pos (Decidable.not_not.mp c_1)])), rfl⟩ d_Mo_about_128
  · have hh : p0.toInt = 0 ∨ p0.toInt = 1 ∨ p0.toInt = 2 ∨ p0.toInt = 3 ∨ p0.toInt = 4 ∨ p0.toInt = 5 ∨ p0.toInt = 6 ∨ p0.toInt = 7 ∨ p0.toInt = 8 := by omega
    rcases hh with hh | hh | hh | hh | hh | hh | hh | hh | hh
    · refine lv_tableIn (off := 51) (tgt := 52) hx hb d_Mo_about_1 (by omega) (by omega) (by rw [hh]; rfl) (by decide) ?_
      refine lv_aload_n hx hb d_Mo_about_52 rfl (lv_at hl 0 rfl) ?_
      refine va_get (D := D) (ci := 12) (v := .ref m11) (C := R_Mo) (T := F_Mo) (N := 55) hx hb hts i_Mo hown hK.1 hP 0 rfl rfl 11 (by decide) (hts _ k_1029) (fun _ h9 => h9) rfl d_Mo_about_53 ?_
      refine lv_aload_n hx hb d_Mo_about_56 rfl (lv_at hl 0 rfl) ?_
      refine va_get (D := D) (ci := 12) (v := .int 0) (C := R_Mo) (T := F_Mo) (N := 55) hx hb hts i_Mo hown hK.1 hP 0 rfl rfl 39 (by decide) (hts _ k_1057) (fun _ h9 => h9) rfl d_Mo_about_57 ?_
      refine va_iald hx hb hK.1 hP 1 1 rfl rfl (nz_vin (by decide +kernel)) d_Mo_about_60 ?_
      refine nz_ctopi (v := 0) rfl ?_
      exact nz_reti C0 (hP.sub (ws' := [(m0_, .inr (12, [.ref m0, .ref m1, .int 0, .int 0, .int 0, .int (-1), .int 0, .int 0, .int 0, .int 0, .long 0, .ref m11, .ref m12, .ref m13, .ref m14, .ref m15, .ref m16, .ref m17, .ref m18, .ref m19, .ref m20, .ref m21, .ref m22, .ref m23, .ref m24, .ref m25, .ref m26, .ref m27, .ref m28, .ref m29, .ref m30, .ref m31, .ref m32, .ref m33, .ref m34, .ref m35, .ref m36, .ref m37, .ref m38, .int 0, .int 0, .ref m41, .ref m42, .ref m43, .ref m44, .int 0, .int 0, .ref m47, .ref m48, .ref m49, .ref m50, .ref m51, .ref m52, .ref m53, .ref m54])), (m11, .inl (cI, 2, .inl (fun _ => 0))), (m12, .inl (cI, 2, .inl (fun _ => 0))), (m13, .inl (cI, 2, .inl (fun _ => 0))), (m14, .inl (cI, 2, .inl (fun _ => 0))), (m15, .inl (cI, 2, .inl (fun _ => 0))), (m16, .inl (cI, 2, .inl (fun _ => 0)))]) [0, 1, 2, 3, 4, 5, 6] rfl) (hD.sub (ws' := [(m0_, .inr (12, [.ref m0, .ref m1, .int 0, .int 0, .int 0, .int (-1), .int 0, .int 0, .int 0, .int 0, .long 0, .ref m11, .ref m12, .ref m13, .ref m14, .ref m15, .ref m16, .ref m17, .ref m18, .ref m19, .ref m20, .ref m21, .ref m22, .ref m23, .ref m24, .ref m25, .ref m26, .ref m27, .ref m28, .ref m29, .ref m30, .ref m31, .ref m32, .ref m33, .ref m34, .ref m35, .ref m36, .ref m37, .ref m38, .int 0, .int 0, .ref m41, .ref m42, .ref m43, .ref m44, .int 0, .int 0, .ref m47, .ref m48, .ref m49, .ref m50, .ref m51, .ref m52, .ref m53, .ref m54])), (m11, .inl (cI, 2, .inl (fun _ => 0))), (m12, .inl (cI, 2, .inl (fun _ => 0))), (m13, .inl (cI, 2, .inl (fun _ => 0))), (m14, .inl (cI, 2, .inl (fun _ => 0))), (m15, .inl (cI, 2, .inl (fun _ => 0))), (m16, .inl (cI, 2, .inl (fun _ => 0)))]) [0, 1, 2, 3, 4, 5, 6] (by decide) rfl) hS ⟨(by unfold nz_ab; (try first | rw [if_pos c_1] | rw [if_neg c_1] | rw [if_pos (Int32.not_le.mp c_1)] | rw [if_neg (Int32.not_lt.mpr c_1)] | rw [if_pos (Decidable.not_not.mp c_1)])), rfl⟩ d_Mo_about_61
    · refine lv_tableIn (off := 61) (tgt := 62) hx hb d_Mo_about_1 (by omega) (by omega) (by rw [hh]; rfl) (by decide) ?_
      refine lv_aload_n hx hb d_Mo_about_62 rfl (lv_at hl 0 rfl) ?_
      refine va_get (D := D) (ci := 12) (v := .ref m12) (C := R_Mo) (T := F_Mo) (N := 55) hx hb hts i_Mo hown hK.1 hP 0 rfl rfl 12 (by decide) (hts _ k_1030) (fun _ h9 => h9) rfl d_Mo_about_63 ?_
      refine lv_aload_n hx hb d_Mo_about_66 rfl (lv_at hl 0 rfl) ?_
      refine va_get (D := D) (ci := 12) (v := .int 0) (C := R_Mo) (T := F_Mo) (N := 55) hx hb hts i_Mo hown hK.1 hP 0 rfl rfl 39 (by decide) (hts _ k_1057) (fun _ h9 => h9) rfl d_Mo_about_67 ?_
      refine va_iald hx hb hK.1 hP 2 1 rfl rfl (nz_vin (by decide +kernel)) d_Mo_about_70 ?_
      refine nz_ctopi (v := 0) rfl ?_
      exact nz_reti C0 (hP.sub (ws' := [(m0_, .inr (12, [.ref m0, .ref m1, .int 0, .int 0, .int 0, .int (-1), .int 0, .int 0, .int 0, .int 0, .long 0, .ref m11, .ref m12, .ref m13, .ref m14, .ref m15, .ref m16, .ref m17, .ref m18, .ref m19, .ref m20, .ref m21, .ref m22, .ref m23, .ref m24, .ref m25, .ref m26, .ref m27, .ref m28, .ref m29, .ref m30, .ref m31, .ref m32, .ref m33, .ref m34, .ref m35, .ref m36, .ref m37, .ref m38, .int 0, .int 0, .ref m41, .ref m42, .ref m43, .ref m44, .int 0, .int 0, .ref m47, .ref m48, .ref m49, .ref m50, .ref m51, .ref m52, .ref m53, .ref m54])), (m11, .inl (cI, 2, .inl (fun _ => 0))), (m12, .inl (cI, 2, .inl (fun _ => 0))), (m13, .inl (cI, 2, .inl (fun _ => 0))), (m14, .inl (cI, 2, .inl (fun _ => 0))), (m15, .inl (cI, 2, .inl (fun _ => 0))), (m16, .inl (cI, 2, .inl (fun _ => 0)))]) [0, 1, 2, 3, 4, 5, 6] rfl) (hD.sub (ws' := [(m0_, .inr (12, [.ref m0, .ref m1, .int 0, .int 0, .int 0, .int (-1), .int 0, .int 0, .int 0, .int 0, .long 0, .ref m11, .ref m12, .ref m13, .ref m14, .ref m15, .ref m16, .ref m17, .ref m18, .ref m19, .ref m20, .ref m21, .ref m22, .ref m23, .ref m24, .ref m25, .ref m26, .ref m27, .ref m28, .ref m29, .ref m30, .ref m31, .ref m32, .ref m33, .ref m34, .ref m35, .ref m36, .ref m37, .ref m38, .int 0, .int 0, .ref m41, .ref m42, .ref m43, .ref m44, .int 0, .int 0, .ref m47, .ref m48, .ref m49, .ref m50, .ref m51, .ref m52, .ref m53, .ref m54])), (m11, .inl (cI, 2, .inl (fun _ => 0))), (m12, .inl (cI, 2, .inl (fun _ => 0))), (m13, .inl (cI, 2, .inl (fun _ => 0))), (m14, .inl (cI, 2, .inl (fun _ => 0))), (m15, .inl (cI, 2, .inl (fun _ => 0))), (m16, .inl (cI, 2, .inl (fun _ => 0)))]) [0, 1, 2, 3, 4, 5, 6] (by decide) rfl) hS ⟨(by unfold nz_ab; (try first | rw [if_pos c_1] | rw [if_neg c_1] | rw [if_pos (Int32.not_le.mp c_1)] | rw [if_neg (Int32.not_lt.mpr c_1)] | rw [if_pos (Decidable.not_not.mp c_1)])), rfl⟩ d_Mo_about_71
    · refine lv_tableIn (off := 71) (tgt := 72) hx hb d_Mo_about_1 (by omega) (by omega) (by rw [hh]; rfl) (by decide) ?_
      refine lv_aload_n hx hb d_Mo_about_72 rfl (lv_at hl 0 rfl) ?_
      refine va_get (D := D) (ci := 12) (v := .ref m13) (C := R_Mo) (T := F_Mo) (N := 55) hx hb hts i_Mo hown hK.1 hP 0 rfl rfl 13 (by decide) (hts _ k_1031) (fun _ h9 => h9) rfl d_Mo_about_73 ?_
      refine lv_aload_n hx hb d_Mo_about_76 rfl (lv_at hl 0 rfl) ?_
      refine va_get (D := D) (ci := 12) (v := .int 0) (C := R_Mo) (T := F_Mo) (N := 55) hx hb hts i_Mo hown hK.1 hP 0 rfl rfl 39 (by decide) (hts _ k_1057) (fun _ h9 => h9) rfl d_Mo_about_77 ?_
      refine va_iald hx hb hK.1 hP 3 1 rfl rfl (nz_vin (by decide +kernel)) d_Mo_about_80 ?_
      refine nz_ctopi (v := 0) rfl ?_
      exact nz_reti C0 (hP.sub (ws' := [(m0_, .inr (12, [.ref m0, .ref m1, .int 0, .int 0, .int 0, .int (-1), .int 0, .int 0, .int 0, .int 0, .long 0, .ref m11, .ref m12, .ref m13, .ref m14, .ref m15, .ref m16, .ref m17, .ref m18, .ref m19, .ref m20, .ref m21, .ref m22, .ref m23, .ref m24, .ref m25, .ref m26, .ref m27, .ref m28, .ref m29, .ref m30, .ref m31, .ref m32, .ref m33, .ref m34, .ref m35, .ref m36, .ref m37, .ref m38, .int 0, .int 0, .ref m41, .ref m42, .ref m43, .ref m44, .int 0, .int 0, .ref m47, .ref m48, .ref m49, .ref m50, .ref m51, .ref m52, .ref m53, .ref m54])), (m11, .inl (cI, 2, .inl (fun _ => 0))), (m12, .inl (cI, 2, .inl (fun _ => 0))), (m13, .inl (cI, 2, .inl (fun _ => 0))), (m14, .inl (cI, 2, .inl (fun _ => 0))), (m15, .inl (cI, 2, .inl (fun _ => 0))), (m16, .inl (cI, 2, .inl (fun _ => 0)))]) [0, 1, 2, 3, 4, 5, 6] rfl) (hD.sub (ws' := [(m0_, .inr (12, [.ref m0, .ref m1, .int 0, .int 0, .int 0, .int (-1), .int 0, .int 0, .int 0, .int 0, .long 0, .ref m11, .ref m12, .ref m13, .ref m14, .ref m15, .ref m16, .ref m17, .ref m18, .ref m19, .ref m20, .ref m21, .ref m22, .ref m23, .ref m24, .ref m25, .ref m26, .ref m27, .ref m28, .ref m29, .ref m30, .ref m31, .ref m32, .ref m33, .ref m34, .ref m35, .ref m36, .ref m37, .ref m38, .int 0, .int 0, .ref m41, .ref m42, .ref m43, .ref m44, .int 0, .int 0, .ref m47, .ref m48, .ref m49, .ref m50, .ref m51, .ref m52, .ref m53, .ref m54])), (m11, .inl (cI, 2, .inl (fun _ => 0))), (m12, .inl (cI, 2, .inl (fun _ => 0))), (m13, .inl (cI, 2, .inl (fun _ => 0))), (m14, .inl (cI, 2, .inl (fun _ => 0))), (m15, .inl (cI, 2, .inl (fun _ => 0))), (m16, .inl (cI, 2, .inl (fun _ => 0)))]) [0, 1, 2, 3, 4, 5, 6] (by decide) rfl) hS ⟨(by unfold nz_ab; (try first | rw [if_pos c_1] | rw [if_neg c_1] | rw [if_pos (Int32.not_le.mp c_1)] | rw [if_neg (Int32.not_lt.mpr c_1)] | rw [if_pos (Decidable.not_not.mp c_1)])), rfl⟩ d_Mo_about_81
    · refine lv_tableIn (off := 81) (tgt := 82) hx hb d_Mo_about_1 (by omega) (by omega) (by rw [hh]; rfl) (by decide) ?_
      refine lv_aload_n hx hb d_Mo_about_82 rfl (lv_at hl 0 rfl) ?_
      refine va_get (D := D) (ci := 12) (v := .ref m14) (C := R_Mo) (T := F_Mo) (N := 55) hx hb hts i_Mo hown hK.1 hP 0 rfl rfl 14 (by decide) (hts _ k_1032) (fun _ h9 => h9) rfl d_Mo_about_83 ?_
      refine lv_aload_n hx hb d_Mo_about_86 rfl (lv_at hl 0 rfl) ?_
      refine va_get (D := D) (ci := 12) (v := .int 0) (C := R_Mo) (T := F_Mo) (N := 55) hx hb hts i_Mo hown hK.1 hP 0 rfl rfl 39 (by decide) (hts _ k_1057) (fun _ h9 => h9) rfl d_Mo_about_87 ?_
      refine va_iald hx hb hK.1 hP 4 1 rfl rfl (nz_vin (by decide +kernel)) d_Mo_about_90 ?_
      refine nz_ctopi (v := 0) rfl ?_
      exact nz_reti C0 (hP.sub (ws' := [(m0_, .inr (12, [.ref m0, .ref m1, .int 0, .int 0, .int 0, .int (-1), .int 0, .int 0, .int 0, .int 0, .long 0, .ref m11, .ref m12, .ref m13, .ref m14, .ref m15, .ref m16, .ref m17, .ref m18, .ref m19, .ref m20, .ref m21, .ref m22, .ref m23, .ref m24, .ref m25, .ref m26, .ref m27, .ref m28, .ref m29, .ref m30, .ref m31, .ref m32, .ref m33, .ref m34, .ref m35, .ref m36, .ref m37, .ref m38, .int 0, .int 0, .ref m41, .ref m42, .ref m43, .ref m44, .int 0, .int 0, .ref m47, .ref m48, .ref m49, .ref m50, .ref m51, .ref m52, .ref m53, .ref m54])), (m11, .inl (cI, 2, .inl (fun _ => 0))), (m12, .inl (cI, 2, .inl (fun _ => 0))), (m13, .inl (cI, 2, .inl (fun _ => 0))), (m14, .inl (cI, 2, .inl (fun _ => 0))), (m15, .inl (cI, 2, .inl (fun _ => 0))), (m16, .inl (cI, 2, .inl (fun _ => 0)))]) [0, 1, 2, 3, 4, 5, 6] rfl) (hD.sub (ws' := [(m0_, .inr (12, [.ref m0, .ref m1, .int 0, .int 0, .int 0, .int (-1), .int 0, .int 0, .int 0, .int 0, .long 0, .ref m11, .ref m12, .ref m13, .ref m14, .ref m15, .ref m16, .ref m17, .ref m18, .ref m19, .ref m20, .ref m21, .ref m22, .ref m23, .ref m24, .ref m25, .ref m26, .ref m27, .ref m28, .ref m29, .ref m30, .ref m31, .ref m32, .ref m33, .ref m34, .ref m35, .ref m36, .ref m37, .ref m38, .int 0, .int 0, .ref m41, .ref m42, .ref m43, .ref m44, .int 0, .int 0, .ref m47, .ref m48, .ref m49, .ref m50, .ref m51, .ref m52, .ref m53, .ref m54])), (m11, .inl (cI, 2, .inl (fun _ => 0))), (m12, .inl (cI, 2, .inl (fun _ => 0))), (m13, .inl (cI, 2, .inl (fun _ => 0))), (m14, .inl (cI, 2, .inl (fun _ => 0))), (m15, .inl (cI, 2, .inl (fun _ => 0))), (m16, .inl (cI, 2, .inl (fun _ => 0)))]) [0, 1, 2, 3, 4, 5, 6] (by decide) rfl) hS ⟨(by unfold nz_ab; (try first | rw [if_pos c_1] | rw [if_neg c_1] | rw [if_pos (Int32.not_le.mp c_1)] | rw [if_neg (Int32.not_lt.mpr c_1)] | rw [if_pos (Decidable.not_not.mp c_1)])), rfl⟩ d_Mo_about_91
    · refine lv_tableIn (off := 91) (tgt := 92) hx hb d_Mo_about_1 (by omega) (by omega) (by rw [hh]; rfl) (by decide) ?_
      refine lv_aload_n hx hb d_Mo_about_92 rfl (lv_at hl 0 rfl) ?_
      refine va_get (D := D) (ci := 12) (v := .ref m15) (C := R_Mo) (T := F_Mo) (N := 55) hx hb hts i_Mo hown hK.1 hP 0 rfl rfl 15 (by decide) (hts _ k_1033) (fun _ h9 => h9) rfl d_Mo_about_93 ?_
      refine lv_aload_n hx hb d_Mo_about_96 rfl (lv_at hl 0 rfl) ?_
      refine va_get (D := D) (ci := 12) (v := .int 0) (C := R_Mo) (T := F_Mo) (N := 55) hx hb hts i_Mo hown hK.1 hP 0 rfl rfl 39 (by decide) (hts _ k_1057) (fun _ h9 => h9) rfl d_Mo_about_97 ?_
      refine va_iald hx hb hK.1 hP 5 1 rfl rfl (nz_vin (by decide +kernel)) d_Mo_about_100 ?_
      refine nz_ctopi (v := 0) rfl ?_
      exact nz_reti C0 (hP.sub (ws' := [(m0_, .inr (12, [.ref m0, .ref m1, .int 0, .int 0, .int 0, .int (-1), .int 0, .int 0, .int 0, .int 0, .long 0, .ref m11, .ref m12, .ref m13, .ref m14, .ref m15, .ref m16, .ref m17, .ref m18, .ref m19, .ref m20, .ref m21, .ref m22, .ref m23, .ref m24, .ref m25, .ref m26, .ref m27, .ref m28, .ref m29, .ref m30, .ref m31, .ref m32, .ref m33, .ref m34, .ref m35, .ref m36, .ref m37, .ref m38, .int 0, .int 0, .ref m41, .ref m42, .ref m43, .ref m44, .int 0, .int 0, .ref m47, .ref m48, .ref m49, .ref m50, .ref m51, .ref m52, .ref m53, .ref m54])), (m11, .inl (cI, 2, .inl (fun _ => 0))), (m12, .inl (cI, 2, .inl (fun _ => 0))), (m13, .inl (cI, 2, .inl (fun _ => 0))), (m14, .inl (cI, 2, .inl (fun _ => 0))), (m15, .inl (cI, 2, .inl (fun _ => 0))), (m16, .inl (cI, 2, .inl (fun _ => 0)))]) [0, 1, 2, 3, 4, 5, 6] rfl) (hD.sub (ws' := [(m0_, .inr (12, [.ref m0, .ref m1, .int 0, .int 0, .int 0, .int (-1), .int 0, .int 0, .int 0, .int 0, .long 0, .ref m11, .ref m12, .ref m13, .ref m14, .ref m15, .ref m16, .ref m17, .ref m18, .ref m19, .ref m20, .ref m21, .ref m22, .ref m23, .ref m24, .ref m25, .ref m26, .ref m27, .ref m28, .ref m29, .ref m30, .ref m31, .ref m32, .ref m33, .ref m34, .ref m35, .ref m36, .ref m37, .ref m38, .int 0, .int 0, .ref m41, .ref m42, .ref m43, .ref m44, .int 0, .int 0, .ref m47, .ref m48, .ref m49, .ref m50, .ref m51, .ref m52, .ref m53, .ref m54])), (m11, .inl (cI, 2, .inl (fun _ => 0))), (m12, .inl (cI, 2, .inl (fun _ => 0))), (m13, .inl (cI, 2, .inl (fun _ => 0))), (m14, .inl (cI, 2, .inl (fun _ => 0))), (m15, .inl (cI, 2, .inl (fun _ => 0))), (m16, .inl (cI, 2, .inl (fun _ => 0)))]) [0, 1, 2, 3, 4, 5, 6] (by decide) rfl) hS ⟨(by unfold nz_ab; (try first | rw [if_pos c_1] | rw [if_neg c_1] | rw [if_pos (Int32.not_le.mp c_1)] | rw [if_neg (Int32.not_lt.mpr c_1)] | rw [if_pos (Decidable.not_not.mp c_1)])), rfl⟩ d_Mo_about_101
    · refine lv_tableIn (off := 101) (tgt := 102) hx hb d_Mo_about_1 (by omega) (by omega) (by rw [hh]; rfl) (by decide) ?_
      refine lv_aload_n hx hb d_Mo_about_102 rfl (lv_at hl 0 rfl) ?_
      refine va_get (D := D) (ci := 12) (v := .ref m16) (C := R_Mo) (T := F_Mo) (N := 55) hx hb hts i_Mo hown hK.1 hP 0 rfl rfl 16 (by decide) (hts _ k_1034) (fun _ h9 => h9) rfl d_Mo_about_103 ?_
      refine lv_aload_n hx hb d_Mo_about_106 rfl (lv_at hl 0 rfl) ?_
      refine va_get (D := D) (ci := 12) (v := .int 0) (C := R_Mo) (T := F_Mo) (N := 55) hx hb hts i_Mo hown hK.1 hP 0 rfl rfl 39 (by decide) (hts _ k_1057) (fun _ h9 => h9) rfl d_Mo_about_107 ?_
      refine va_iald hx hb hK.1 hP 6 1 rfl rfl (nz_vin (by decide +kernel)) d_Mo_about_110 ?_
      refine nz_ctopi (v := 0) rfl ?_
      exact nz_reti C0 (hP.sub (ws' := [(m0_, .inr (12, [.ref m0, .ref m1, .int 0, .int 0, .int 0, .int (-1), .int 0, .int 0, .int 0, .int 0, .long 0, .ref m11, .ref m12, .ref m13, .ref m14, .ref m15, .ref m16, .ref m17, .ref m18, .ref m19, .ref m20, .ref m21, .ref m22, .ref m23, .ref m24, .ref m25, .ref m26, .ref m27, .ref m28, .ref m29, .ref m30, .ref m31, .ref m32, .ref m33, .ref m34, .ref m35, .ref m36, .ref m37, .ref m38, .int 0, .int 0, .ref m41, .ref m42, .ref m43, .ref m44, .int 0, .int 0, .ref m47, .ref m48, .ref m49, .ref m50, .ref m51, .ref m52, .ref m53, .ref m54])), (m11, .inl (cI, 2, .inl (fun _ => 0))), (m12, .inl (cI, 2, .inl (fun _ => 0))), (m13, .inl (cI, 2, .inl (fun _ => 0))), (m14, .inl (cI, 2, .inl (fun _ => 0))), (m15, .inl (cI, 2, .inl (fun _ => 0))), (m16, .inl (cI, 2, .inl (fun _ => 0)))]) [0, 1, 2, 3, 4, 5, 6] rfl) (hD.sub (ws' := [(m0_, .inr (12, [.ref m0, .ref m1, .int 0, .int 0, .int 0, .int (-1), .int 0, .int 0, .int 0, .int 0, .long 0, .ref m11, .ref m12, .ref m13, .ref m14, .ref m15, .ref m16, .ref m17, .ref m18, .ref m19, .ref m20, .ref m21, .ref m22, .ref m23, .ref m24, .ref m25, .ref m26, .ref m27, .ref m28, .ref m29, .ref m30, .ref m31, .ref m32, .ref m33, .ref m34, .ref m35, .ref m36, .ref m37, .ref m38, .int 0, .int 0, .ref m41, .ref m42, .ref m43, .ref m44, .int 0, .int 0, .ref m47, .ref m48, .ref m49, .ref m50, .ref m51, .ref m52, .ref m53, .ref m54])), (m11, .inl (cI, 2, .inl (fun _ => 0))), (m12, .inl (cI, 2, .inl (fun _ => 0))), (m13, .inl (cI, 2, .inl (fun _ => 0))), (m14, .inl (cI, 2, .inl (fun _ => 0))), (m15, .inl (cI, 2, .inl (fun _ => 0))), (m16, .inl (cI, 2, .inl (fun _ => 0)))]) [0, 1, 2, 3, 4, 5, 6] (by decide) rfl) hS ⟨(by unfold nz_ab; (try first | rw [if_pos c_1] | rw [if_neg c_1] | rw [if_pos (Int32.not_le.mp c_1)] | rw [if_neg (Int32.not_lt.mpr c_1)] | rw [if_pos (Decidable.not_not.mp c_1)])), rfl⟩ d_Mo_about_111
    · refine lv_tableIn (off := 111) (tgt := 112) hx hb d_Mo_about_1 (by omega) (by omega) (by rw [hh]; rfl) (by decide) ?_
      refine lv_aload_n hx hb d_Mo_about_112 rfl (lv_at hl 0 rfl) ?_
      refine va_get (D := D) (ci := 12) (v := .int 0) (C := R_Mo) (T := F_Mo) (N := 55) hx hb hts i_Mo hown hK.1 hP 0 rfl rfl 45 (by decide) (hts _ k_1063) (fun _ h9 => h9) rfl d_Mo_about_113 ?_
      exact nz_reti C0 (hP.sub (ws' := [(m0_, .inr (12, [.ref m0, .ref m1, .int 0, .int 0, .int 0, .int (-1), .int 0, .int 0, .int 0, .int 0, .long 0, .ref m11, .ref m12, .ref m13, .ref m14, .ref m15, .ref m16, .ref m17, .ref m18, .ref m19, .ref m20, .ref m21, .ref m22, .ref m23, .ref m24, .ref m25, .ref m26, .ref m27, .ref m28, .ref m29, .ref m30, .ref m31, .ref m32, .ref m33, .ref m34, .ref m35, .ref m36, .ref m37, .ref m38, .int 0, .int 0, .ref m41, .ref m42, .ref m43, .ref m44, .int 0, .int 0, .ref m47, .ref m48, .ref m49, .ref m50, .ref m51, .ref m52, .ref m53, .ref m54])), (m11, .inl (cI, 2, .inl (fun _ => 0))), (m12, .inl (cI, 2, .inl (fun _ => 0))), (m13, .inl (cI, 2, .inl (fun _ => 0))), (m14, .inl (cI, 2, .inl (fun _ => 0))), (m15, .inl (cI, 2, .inl (fun _ => 0))), (m16, .inl (cI, 2, .inl (fun _ => 0)))]) [0, 1, 2, 3, 4, 5, 6] rfl) (hD.sub (ws' := [(m0_, .inr (12, [.ref m0, .ref m1, .int 0, .int 0, .int 0, .int (-1), .int 0, .int 0, .int 0, .int 0, .long 0, .ref m11, .ref m12, .ref m13, .ref m14, .ref m15, .ref m16, .ref m17, .ref m18, .ref m19, .ref m20, .ref m21, .ref m22, .ref m23, .ref m24, .ref m25, .ref m26, .ref m27, .ref m28, .ref m29, .ref m30, .ref m31, .ref m32, .ref m33, .ref m34, .ref m35, .ref m36, .ref m37, .ref m38, .int 0, .int 0, .ref m41, .ref m42, .ref m43, .ref m44, .int 0, .int 0, .ref m47, .ref m48, .ref m49, .ref m50, .ref m51, .ref m52, .ref m53, .ref m54])), (m11, .inl (cI, 2, .inl (fun _ => 0))), (m12, .inl (cI, 2, .inl (fun _ => 0))), (m13, .inl (cI, 2, .inl (fun _ => 0))), (m14, .inl (cI, 2, .inl (fun _ => 0))), (m15, .inl (cI, 2, .inl (fun _ => 0))), (m16, .inl (cI, 2, .inl (fun _ => 0)))]) [0, 1, 2, 3, 4, 5, 6] (by decide) rfl) hS ⟨(by unfold nz_ab; (try first | rw [if_pos c_1] | rw [if_neg c_1] | rw [if_pos (Int32.not_le.mp c_1)] | rw [if_neg (Int32.not_lt.mpr c_1)] | rw [if_pos (Decidable.not_not.mp c_1)])), rfl⟩ d_Mo_about_116
    · refine lv_tableIn (off := 116) (tgt := 117) hx hb d_Mo_about_1 (by omega) (by omega) (by rw [hh]; rfl) (by decide) ?_
      refine lv_aload_n hx hb d_Mo_about_117 rfl (lv_at hl 0 rfl) ?_
      refine va_get (D := D) (ci := 12) (v := .int 0) (C := R_Mo) (T := F_Mo) (N := 55) hx hb hts i_Mo hown hK.1 hP 0 rfl rfl 46 (by decide) (hts _ k_1064) (fun _ h9 => h9) rfl d_Mo_about_118 ?_
      exact nz_reti C0 (hP.sub (ws' := [(m0_, .inr (12, [.ref m0, .ref m1, .int 0, .int 0, .int 0, .int (-1), .int 0, .int 0, .int 0, .int 0, .long 0, .ref m11, .ref m12, .ref m13, .ref m14, .ref m15, .ref m16, .ref m17, .ref m18, .ref m19, .ref m20, .ref m21, .ref m22, .ref m23, .ref m24, .ref m25, .ref m26, .ref m27, .ref m28, .ref m29, .ref m30, .ref m31, .ref m32, .ref m33, .ref m34, .ref m35, .ref m36, .ref m37, .ref m38, .int 0, .int 0, .ref m41, .ref m42, .ref m43, .ref m44, .int 0, .int 0, .ref m47, .ref m48, .ref m49, .ref m50, .ref m51, .ref m52, .ref m53, .ref m54])), (m11, .inl (cI, 2, .inl (fun _ => 0))), (m12, .inl (cI, 2, .inl (fun _ => 0))), (m13, .inl (cI, 2, .inl (fun _ => 0))), (m14, .inl (cI, 2, .inl (fun _ => 0))), (m15, .inl (cI, 2, .inl (fun _ => 0))), (m16, .inl (cI, 2, .inl (fun _ => 0)))]) [0, 1, 2, 3, 4, 5, 6] rfl) (hD.sub (ws' := [(m0_, .inr (12, [.ref m0, .ref m1, .int 0, .int 0, .int 0, .int (-1), .int 0, .int 0, .int 0, .int 0, .long 0, .ref m11, .ref m12, .ref m13, .ref m14, .ref m15, .ref m16, .ref m17, .ref m18, .ref m19, .ref m20, .ref m21, .ref m22, .ref m23, .ref m24, .ref m25, .ref m26, .ref m27, .ref m28, .ref m29, .ref m30, .ref m31, .ref m32, .ref m33, .ref m34, .ref m35, .ref m36, .ref m37, .ref m38, .int 0, .int 0, .ref m41, .ref m42, .ref m43, .ref m44, .int 0, .int 0, .ref m47, .ref m48, .ref m49, .ref m50, .ref m51, .ref m52, .ref m53, .ref m54])), (m11, .inl (cI, 2, .inl (fun _ => 0))), (m12, .inl (cI, 2, .inl (fun _ => 0))), (m13, .inl (cI, 2, .inl (fun _ => 0))), (m14, .inl (cI, 2, .inl (fun _ => 0))), (m15, .inl (cI, 2, .inl (fun _ => 0))), (m16, .inl (cI, 2, .inl (fun _ => 0)))]) [0, 1, 2, 3, 4, 5, 6] (by decide) rfl) hS ⟨(by unfold nz_ab; (try first | rw [if_pos c_1] | rw [if_neg c_1] | rw [if_pos (Int32.not_le.mp c_1)] | rw [if_neg (Int32.not_lt.mpr c_1)] | rw [if_pos (Decidable.not_not.mp c_1)])), rfl⟩ d_Mo_about_121
    · refine lv_tableIn (off := 121) (tgt := 122) hx hb d_Mo_about_1 (by omega) (by omega) (by rw [hh]; rfl) (by decide) ?_
      refine lv_aload_n hx hb d_Mo_about_122 rfl (lv_at hl 0 rfl) ?_
      refine va_get (D := D) (ci := 12) (v := .int 0) (C := R_Mo) (T := F_Mo) (N := 55) hx hb hts i_Mo hown hK.1 hP 0 rfl rfl 2 (by decide) (hts _ k_1020) (fun _ h9 => h9) rfl d_Mo_about_123 ?_
      exact nz_reti C0 (hP.sub (ws' := [(m0_, .inr (12, [.ref m0, .ref m1, .int 0, .int 0, .int 0, .int (-1), .int 0, .int 0, .int 0, .int 0, .long 0, .ref m11, .ref m12, .ref m13, .ref m14, .ref m15, .ref m16, .ref m17, .ref m18, .ref m19, .ref m20, .ref m21, .ref m22, .ref m23, .ref m24, .ref m25, .ref m26, .ref m27, .ref m28, .ref m29, .ref m30, .ref m31, .ref m32, .ref m33, .ref m34, .ref m35, .ref m36, .ref m37, .ref m38, .int 0, .int 0, .ref m41, .ref m42, .ref m43, .ref m44, .int 0, .int 0, .ref m47, .ref m48, .ref m49, .ref m50, .ref m51, .ref m52, .ref m53, .ref m54])), (m11, .inl (cI, 2, .inl (fun _ => 0))), (m12, .inl (cI, 2, .inl (fun _ => 0))), (m13, .inl (cI, 2, .inl (fun _ => 0))), (m14, .inl (cI, 2, .inl (fun _ => 0))), (m15, .inl (cI, 2, .inl (fun _ => 0))), (m16, .inl (cI, 2, .inl (fun _ => 0)))]) [0, 1, 2, 3, 4, 5, 6] rfl) (hD.sub (ws' := [(m0_, .inr (12, [.ref m0, .ref m1, .int 0, .int 0, .int 0, .int (-1), .int 0, .int 0, .int 0, .int 0, .long 0, .ref m11, .ref m12, .ref m13, .ref m14, .ref m15, .ref m16, .ref m17, .ref m18, .ref m19, .ref m20, .ref m21, .ref m22, .ref m23, .ref m24, .ref m25, .ref m26, .ref m27, .ref m28, .ref m29, .ref m30, .ref m31, .ref m32, .ref m33, .ref m34, .ref m35, .ref m36, .ref m37, .ref m38, .int 0, .int 0, .ref m41, .ref m42, .ref m43, .ref m44, .int 0, .int 0, .ref m47, .ref m48, .ref m49, .ref m50, .ref m51, .ref m52, .ref m53, .ref m54])), (m11, .inl (cI, 2, .inl (fun _ => 0))), (m12, .inl (cI, 2, .inl (fun _ => 0))), (m13, .inl (cI, 2, .inl (fun _ => 0))), (m14, .inl (cI, 2, .inl (fun _ => 0))), (m15, .inl (cI, 2, .inl (fun _ => 0))), (m16, .inl (cI, 2, .inl (fun _ => 0)))]) [0, 1, 2, 3, 4, 5, 6] (by decide) rfl) hS ⟨(by unfold nz_ab; (try first | rw [if_pos c_1] | rw [if_neg c_1] | rw [if_pos (Int32.not_le.mp c_1)] | rw [if_neg (Int32.not_lt.mpr c_1)] | rw [if_pos (Decidable.not_not.mp c_1)])), rfl⟩ d_Mo_about_126
end
section
set_option maxHeartbeats 4000000 in
set_option maxRecDepth 100000 in
theorem c_Mo_feed (l : Launch) (D : va_G) (cB cI cJ : ClassId) (m0_ : Nat) (p0 : Int32) (p1 : Int32) (p2 : Int32) (p3 : Int32) (p4 : Int32) (m0 : Nat) (m1 : Nat) (m11 : Nat) (m12 : Nat) (m13 : Nat) (m14 : Nat) (m15 : Nat) (m16 : Nat) (m17 : Nat) (m18 : Nat) (m19 : Nat) (m20 : Nat) (m21 : Nat) (m22 : Nat) (m23 : Nat) (m24 : Nat) (m25 : Nat) (m26 : Nat) (m27 : Nat) (m28 : Nat) (m29 : Nat) (m30 : Nat) (m31 : Nat) (m32 : Nat) (m33 : Nat) (m34 : Nat) (m35 : Nat) (m36 : Nat) (m37 : Nat) (m38 : Nat) (m41 : Nat) (m42 : Nat) (m43 : Nat) (m44 : Nat) (m47 : Nat) (m48 : Nat) (m49 : Nat) (m50 : Nat) (m51 : Nat) (m52 : Nat) (m53 : Nat) (m54 : Nat) (ft : Nat → Int32) : nz_Ci l D cB cI cJ nz_x0 y_Mo_feed b_Mo_feed 8 (some .int) { frames := 0, cells := 0, slots := 0, locals := 0 } [.ref m0_, .int p0, .int p1, .int p2, .int p3, .int p4] [(m0_, .inr (12, [.ref m0, .ref m1, .int 0, .int 0, .int 0, .int (-1), .int 0, .int 0, .int 0, .int 0, .long 0, .ref m11, .ref m12, .ref m13, .ref m14, .ref m15, .ref m16, .ref m17, .ref m18, .ref m19, .ref m20, .ref m21, .ref m22, .ref m23, .ref m24, .ref m25, .ref m26, .ref m27, .ref m28, .ref m29, .ref m30, .ref m31, .ref m32, .ref m33, .ref m34, .ref m35, .ref m36, .ref m37, .ref m38, .int 0, .int 0, .ref m41, .ref m42, .ref m43, .ref m44, .int 0, .int 0, .ref m47, .ref m48, .ref m49, .ref m50, .ref m51, .ref m52, .ref m53, .ref m54])), (m0, .inl (cB, 1620, .inl ft))] (fun r w => ∃ (zf : Nat → Int32), r = 20 ∧ w = [(m0_, .inr (12, [.ref m0, .ref m1, .int 20, .int 0, .int 0, .int (-1), .int 0, .int 0, .int 0, .int 0, .long 0, .ref m11, .ref m12, .ref m13, .ref m14, .ref m15, .ref m16, .ref m17, .ref m18, .ref m19, .ref m20, .ref m21, .ref m22, .ref m23, .ref m24, .ref m25, .ref m26, .ref m27, .ref m28, .ref m29, .ref m30, .ref m31, .ref m32, .ref m33, .ref m34, .ref m35, .ref m36, .ref m37, .ref m38, .int 0, .int 0, .ref m41, .ref m42, .ref m43, .ref m44, .int 0, .int 0, .ref m47, .ref m48, .ref m49, .ref m50, .ref m51, .ref m52, .ref m53, .ref m54])), (m0, .inl (cB, 1620, .inl zf))]) := by
  refine nz_Ci.mk (by decide) (Nat.le_of_ble_eq_true rfl) ?_
  intro p e s m below meth c A ls C0 hnm hP hD hS hA hX hl
  have C0 : nz_Cx p s m _ meth c b_Mo_feed 8 (some .int) R_Mo D cB cI cJ := C0
  obtain ⟨hx, hb, hr, hml, hown, hts, hlk, hK⟩ := id C0
  have hl : lv_has ls 8 [(0, .ref m0_), (1, .int p0), (2, .int p1), (3, .int p2), (4, .int p3), (5, .int p4)] := hl
  refine lv_aload_n hx hb d_Mo_feed_0 rfl (lv_at hl 0 rfl) ?_
  refine va_get (D := D) (ci := 12) (v := .int 0) (C := R_Mo) (T := F_Mo) (N := 55) hx hb hts i_Mo hown hK.1 hP 0 rfl rfl 2 (by decide) (hts _ k_1020) (fun _ h9 => h9) rfl d_Mo_feed_1 ?_
  refine lv_bipush (v := 20) hx hb d_Mo_feed_4 (by decide +kernel) ?_
  refine lv_iadd hx hb d_Mo_feed_6 ?_
  refine nz_ctopi (v := 20) (by decide +kernel) ?_
  refine lv_sipush (v := 1600) hx hb d_Mo_feed_7 (by decide +kernel) ?_
  refine lv_icmp_le (tgt := 15) hx hb d_Mo_feed_10 (by decide) (fun c_1 => ?_) (fun c_1 => absurd (by decide +kernel) c_1)
  refine lv_iconst (v := 0) hx hb d_Mo_feed_15 (by decide +kernel) ?_
  refine lv_istore (lv' := [(6, .int 0), (0, .ref m0_), (1, .int p0), (2, .int p1), (3, .int p2), (4, .int p3), (5, .int p4)]) hx hb d_Mo_feed_16 hl (by decide) rfl (fun ls hl => ?_)
  refine lv_iload hx hb d_Mo_feed_18 (lv_at hl 0 rfl) ?_
  refine lv_bipush (v := 20) hx hb d_Mo_feed_20 (by decide +kernel) ?_
  refine lv_icmp_ge (tgt := 105) hx hb d_Mo_feed_22 (by decide) (fun c_2 => absurd c_2 (by decide +kernel)) (fun c_2 => ?_)
  refine lv_iload hx hb d_Mo_feed_25 (lv_at hl 0 rfl) ?_
  refine lv_iconst (v := 4) hx hb d_Mo_feed_27 (by decide +kernel) ?_
  refine lv_icmp_ge (tgt := 35) hx hb d_Mo_feed_28 (by decide) (fun c_3 => absurd c_3 (by decide +kernel)) (fun c_3 => ?_)
  refine lv_iload_n hx hb d_Mo_feed_31 rfl (lv_at hl 2 rfl) ?_
  refine lv_goto (tgt := 71) hx hb d_Mo_feed_32 (by decide) ?_
  refine lv_istore (lv' := [(7, .int p0), (6, .int 0), (0, .ref m0_), (1, .int p0), (2, .int p1), (3, .int p2), (4, .int p3), (5, .int p4)]) hx hb d_Mo_feed_71 hl (by decide) rfl (fun ls hl => ?_)
  refine lv_aload_n hx hb d_Mo_feed_73 rfl (lv_at hl 2 rfl) ?_
  refine va_get (D := D) (ci := 12) (v := .ref m0) (C := R_Mo) (T := F_Mo) (N := 55) hx hb hts i_Mo hown hK.1 hP 0 rfl rfl 0 (by decide) (hts _ k_1018) (fun _ h9 => h9) rfl d_Mo_feed_74 ?_
  refine lv_aload_n hx hb d_Mo_feed_77 rfl (lv_at hl 2 rfl) ?_
  refine va_get (D := D) (ci := 12) (v := .int 0) (C := R_Mo) (T := F_Mo) (N := 55) hx hb hts i_Mo hown hK.1 hP 0 rfl rfl 2 (by decide) (hts _ k_1020) (fun _ h9 => h9) rfl d_Mo_feed_78 ?_
  refine lv_iload hx hb d_Mo_feed_81 (lv_at hl 1 rfl) ?_
  refine lv_iadd hx hb d_Mo_feed_83 ?_
  refine nz_ctopi (v := 0) (by decide +kernel) ?_
  refine lv_iload hx hb d_Mo_feed_84 (lv_at hl 0 rfl) ?_
  refine lv_bipush (v := 24) hx hb d_Mo_feed_86 (by decide +kernel) ?_
  refine lv_bipush (v := 8) hx hb d_Mo_feed_88 (by decide +kernel) ?_
  refine lv_iload hx hb d_Mo_feed_90 (lv_at hl 1 rfl) ?_
  refine lv_iconst (v := 3) hx hb d_Mo_feed_92 (by decide +kernel) ?_
  refine lv_iand hx hb d_Mo_feed_93 ?_
  refine nz_ctopi (v := 0) (by decide +kernel) ?_
  refine lv_imul hx hb d_Mo_feed_94 ?_
  refine nz_ctopi (v := 0) (by decide +kernel) ?_
  refine lv_isub hx hb d_Mo_feed_95 ?_
  refine nz_ctopi (v := 24) (by decide +kernel) ?_
  refine lv_ishr hx hb d_Mo_feed_96 ?_
  refine lv_topi (fun x_4 e_5 => ?_)
  refine lv_i2b (v := x_4.toInt8.toInt32) hx hb d_Mo_feed_97 rfl ?_
  refine lv_topi (fun x_7 e_8 => ?_)
  refine nz_bastE hx hb hK.1 hP hD hS 1 0 rfl rfl (nz_vin (by decide +kernel)) d_Mo_feed_98 (fun H locs f_9 f_9_e hP hD hS => ?_)
  have hP : va_P D nz_cl [(m0_, .inr (12, [.ref m0, .ref m1, .int 0, .int 0, .int 0, .int (-1), .int 0, .int 0, .int 0, .int 0, .long 0, .ref m11, .ref m12, .ref m13, .ref m14, .ref m15, .ref m16, .ref m17, .ref m18, .ref m19, .ref m20, .ref m21, .ref m22, .ref m23, .ref m24, .ref m25, .ref m26, .ref m27, .ref m28, .ref m29, .ref m30, .ref m31, .ref m32, .ref m33, .ref m34, .ref m35, .ref m36, .ref m37, .ref m38, .int 0, .int 0, .ref m41, .ref m42, .ref m43, .ref m44, .int 0, .int 0, .ref m47, .ref m48, .ref m49, .ref m50, .ref m51, .ref m52, .ref m53, .ref m54])), (m0, .inl (cB, 1620, .inl f_9))] H := hP
  have hD : va_D A [(m0_, .inr (12, [.ref m0, .ref m1, .int 0, .int 0, .int 0, .int (-1), .int 0, .int 0, .int 0, .int 0, .long 0, .ref m11, .ref m12, .ref m13, .ref m14, .ref m15, .ref m16, .ref m17, .ref m18, .ref m19, .ref m20, .ref m21, .ref m22, .ref m23, .ref m24, .ref m25, .ref m26, .ref m27, .ref m28, .ref m29, .ref m30, .ref m31, .ref m32, .ref m33, .ref m34, .ref m35, .ref m36, .ref m37, .ref m38, .int 0, .int 0, .ref m41, .ref m42, .ref m43, .ref m44, .int 0, .int 0, .ref m47, .ref m48, .ref m49, .ref m50, .ref m51, .ref m52, .ref m53, .ref m54])), (m0, .inl (cB, 1620, .inl f_9))] := hD
  refine lv_iinc (v := 1) (lv' := [(6, .int 1), (7, .int p0), (0, .ref m0_), (1, .int p0), (2, .int p1), (3, .int p2), (4, .int p3), (5, .int p4)]) hx hb d_Mo_feed_99 hl (k := 1) rfl (by decide +kernel) (by decide) rfl (fun ls hl => ?_)
  refine lv_goto (tgt := 18) hx hb d_Mo_feed_102 (by decide) ?_
  refine lv_iload hx hb d_Mo_feed_18 (lv_at hl 0 rfl) ?_
  refine lv_bipush (v := 20) hx hb d_Mo_feed_20 (by decide +kernel) ?_
  refine lv_icmp_ge (tgt := 105) hx hb d_Mo_feed_22 (by decide) (fun c_10 => absurd c_10 (by decide +kernel)) (fun c_10 => ?_)
  refine lv_iload hx hb d_Mo_feed_25 (lv_at hl 0 rfl) ?_
  refine lv_iconst (v := 4) hx hb d_Mo_feed_27 (by decide +kernel) ?_
  refine lv_icmp_ge (tgt := 35) hx hb d_Mo_feed_28 (by decide) (fun c_11 => absurd c_11 (by decide +kernel)) (fun c_11 => ?_)
  refine lv_iload_n hx hb d_Mo_feed_31 rfl (lv_at hl 3 rfl) ?_
  refine lv_goto (tgt := 71) hx hb d_Mo_feed_32 (by decide) ?_
  refine lv_istore (lv' := [(7, .int p0), (6, .int 1), (0, .ref m0_), (1, .int p0), (2, .int p1), (3, .int p2), (4, .int p3), (5, .int p4)]) hx hb d_Mo_feed_71 hl (by decide) rfl (fun ls hl => ?_)
  refine lv_aload_n hx hb d_Mo_feed_73 rfl (lv_at hl 2 rfl) ?_
  refine va_get (D := D) (ci := 12) (v := .ref m0) (C := R_Mo) (T := F_Mo) (N := 55) hx hb hts i_Mo hown hK.1 hP 0 rfl rfl 0 (by decide) (hts _ k_1018) (fun _ h9 => h9) rfl d_Mo_feed_74 ?_
  refine lv_aload_n hx hb d_Mo_feed_77 rfl (lv_at hl 2 rfl) ?_
  refine va_get (D := D) (ci := 12) (v := .int 0) (C := R_Mo) (T := F_Mo) (N := 55) hx hb hts i_Mo hown hK.1 hP 0 rfl rfl 2 (by decide) (hts _ k_1020) (fun _ h9 => h9) rfl d_Mo_feed_78 ?_
  refine lv_iload hx hb d_Mo_feed_81 (lv_at hl 1 rfl) ?_
  refine lv_iadd hx hb d_Mo_feed_83 ?_
  refine nz_ctopi (v := 1) (by decide +kernel) ?_
  refine lv_iload hx hb d_Mo_feed_84 (lv_at hl 0 rfl) ?_
  refine lv_bipush (v := 24) hx hb d_Mo_feed_86 (by decide +kernel) ?_
  refine lv_bipush (v := 8) hx hb d_Mo_feed_88 (by decide +kernel) ?_
  refine lv_iload hx hb d_Mo_feed_90 (lv_at hl 1 rfl) ?_
  refine lv_iconst (v := 3) hx hb d_Mo_feed_92 (by decide +kernel) ?_
  refine lv_iand hx hb d_Mo_feed_93 ?_
  refine nz_ctopi (v := 1) (by decide +kernel) ?_
  refine lv_imul hx hb d_Mo_feed_94 ?_
  refine nz_ctopi (v := 8) (by decide +kernel) ?_
  refine lv_isub hx hb d_Mo_feed_95 ?_
  refine nz_ctopi (v := 16) (by decide +kernel) ?_
  refine lv_ishr hx hb d_Mo_feed_96 ?_
  refine lv_topi (fun x_12 e_13 => ?_)
  refine lv_i2b (v := x_12.toInt8.toInt32) hx hb d_Mo_feed_97 rfl ?_
  refine lv_topi (fun x_15 e_16 => ?_)
  refine nz_bastE hx hb hK.1 hP hD hS 1 0 rfl rfl (nz_vin (by decide +kernel)) d_Mo_feed_98 (fun H locs f_17 f_17_e hP hD hS => ?_)
  have hP : va_P D nz_cl [(m0_, .inr (12, [.ref m0, .ref m1, .int 0, .int 0, .int 0, .int (-1), .int 0, .int 0, .int 0, .int 0, .long 0, .ref m11, .ref m12, .ref m13, .ref m14, .ref m15, .ref m16, .ref m17, .ref m18, .ref m19, .ref m20, .ref m21, .ref m22, .ref m23, .ref m24, .ref m25, .ref m26, .ref m27, .ref m28, .ref m29, .ref m30, .ref m31, .ref m32, .ref m33, .ref m34, .ref m35, .ref m36, .ref m37, .ref m38, .int 0, .int 0, .ref m41, .ref m42, .ref m43, .ref m44, .int 0, .int 0, .ref m47, .ref m48, .ref m49, .ref m50, .ref m51, .ref m52, .ref m53, .ref m54])), (m0, .inl (cB, 1620, .inl f_17))] H := hP
  have hD : va_D A [(m0_, .inr (12, [.ref m0, .ref m1, .int 0, .int 0, .int 0, .int (-1), .int 0, .int 0, .int 0, .int 0, .long 0, .ref m11, .ref m12, .ref m13, .ref m14, .ref m15, .ref m16, .ref m17, .ref m18, .ref m19, .ref m20, .ref m21, .ref m22, .ref m23, .ref m24, .ref m25, .ref m26, .ref m27, .ref m28, .ref m29, .ref m30, .ref m31, .ref m32, .ref m33, .ref m34, .ref m35, .ref m36, .ref m37, .ref m38, .int 0, .int 0, .ref m41, .ref m42, .ref m43, .ref m44, .int 0, .int 0, .ref m47, .ref m48, .ref m49, .ref m50, .ref m51, .ref m52, .ref m53, .ref m54])), (m0, .inl (cB, 1620, .inl f_17))] := hD
  refine lv_iinc (v := 2) (lv' := [(6, .int 2), (7, .int p0), (0, .ref m0_), (1, .int p0), (2, .int p1), (3, .int p2), (4, .int p3), (5, .int p4)]) hx hb d_Mo_feed_99 hl (k := 1) rfl (by decide +kernel) (by decide) rfl (fun ls hl => ?_)
  refine lv_goto (tgt := 18) hx hb d_Mo_feed_102 (by decide) ?_
  refine lv_iload hx hb d_Mo_feed_18 (lv_at hl 0 rfl) ?_
  refine lv_bipush (v := 20) hx hb d_Mo_feed_20 (by decide +kernel) ?_
  refine lv_icmp_ge (tgt := 105) hx hb d_Mo_feed_22 (by decide) (fun c_18 => absurd c_18 (by decide +kernel)) (fun c_18 => ?_)
  refine lv_iload hx hb d_Mo_feed_25 (lv_at hl 0 rfl) ?_
  refine lv_iconst (v := 4) hx hb d_Mo_feed_27 (by decide +kernel) ?_
  refine lv_icmp_ge (tgt := 35) hx hb d_Mo_feed_28 (by decide) (fun c_19 => absurd c_19 (by decide +kernel)) (fun c_19 => ?_)
  refine lv_iload_n hx hb d_Mo_feed_31 rfl (lv_at hl 3 rfl) ?_
  refine lv_goto (tgt := 71) hx hb d_Mo_feed_32 (by decide) ?_
  refine lv_istore (lv' := [(7, .int p0), (6, .int 2), (0, .ref m0_), (1, .int p0), (2, .int p1), (3, .int p2), (4, .int p3), (5, .int p4)]) hx hb d_Mo_feed_71 hl (by decide) rfl (fun ls hl => ?_)
  refine lv_aload_n hx hb d_Mo_feed_73 rfl (lv_at hl 2 rfl) ?_
  refine va_get (D := D) (ci := 12) (v := .ref m0) (C := R_Mo) (T := F_Mo) (N := 55) hx hb hts i_Mo hown hK.1 hP 0 rfl rfl 0 (by decide) (hts _ k_1018) (fun _ h9 => h9) rfl d_Mo_feed_74 ?_
  refine lv_aload_n hx hb d_Mo_feed_77 rfl (lv_at hl 2 rfl) ?_
  refine va_get (D := D) (ci := 12) (v := .int 0) (C := R_Mo) (T := F_Mo) (N := 55) hx hb hts i_Mo hown hK.1 hP 0 rfl rfl 2 (by decide) (hts _ k_1020) (fun _ h9 => h9) rfl d_Mo_feed_78 ?_
  refine lv_iload hx hb d_Mo_feed_81 (lv_at hl 1 rfl) ?_
  refine lv_iadd hx hb d_Mo_feed_83 ?_
  refine nz_ctopi (v := 2) (by decide +kernel) ?_
  refine lv_iload hx hb d_Mo_feed_84 (lv_at hl 0 rfl) ?_
  refine lv_bipush (v := 24) hx hb d_Mo_feed_86 (by decide +kernel) ?_
  refine lv_bipush (v := 8) hx hb d_Mo_feed_88 (by decide +kernel) ?_
  refine lv_iload hx hb d_Mo_feed_90 (lv_at hl 1 rfl) ?_
  refine lv_iconst (v := 3) hx hb d_Mo_feed_92 (by decide +kernel) ?_
  refine lv_iand hx hb d_Mo_feed_93 ?_
  refine nz_ctopi (v := 2) (by decide +kernel) ?_
  refine lv_imul hx hb d_Mo_feed_94 ?_
  refine nz_ctopi (v := 16) (by decide +kernel) ?_
  refine lv_isub hx hb d_Mo_feed_95 ?_
  refine nz_ctopi (v := 8) (by decide +kernel) ?_
  refine lv_ishr hx hb d_Mo_feed_96 ?_
  refine lv_topi (fun x_20 e_21 => ?_)
  refine lv_i2b (v := x_20.toInt8.toInt32) hx hb d_Mo_feed_97 rfl ?_
  refine lv_topi (fun x_23 e_24 => ?_)
  refine nz_bastE hx hb hK.1 hP hD hS 1 0 rfl rfl (nz_vin (by decide +kernel)) d_Mo_feed_98 (fun H locs f_25 f_25_e hP hD hS => ?_)
  have hP : va_P D nz_cl [(m0_, .inr (12, [.ref m0, .ref m1, .int 0, .int 0, .int 0, .int (-1), .int 0, .int 0, .int 0, .int 0, .long 0, .ref m11, .ref m12, .ref m13, .ref m14, .ref m15, .ref m16, .ref m17, .ref m18, .ref m19, .ref m20, .ref m21, .ref m22, .ref m23, .ref m24, .ref m25, .ref m26, .ref m27, .ref m28, .ref m29, .ref m30, .ref m31, .ref m32, .ref m33, .ref m34, .ref m35, .ref m36, .ref m37, .ref m38, .int 0, .int 0, .ref m41, .ref m42, .ref m43, .ref m44, .int 0, .int 0, .ref m47, .ref m48, .ref m49, .ref m50, .ref m51, .ref m52, .ref m53, .ref m54])), (m0, .inl (cB, 1620, .inl f_25))] H := hP
  have hD : va_D A [(m0_, .inr (12, [.ref m0, .ref m1, .int 0, .int 0, .int 0, .int (-1), .int 0, .int 0, .int 0, .int 0, .long 0, .ref m11, .ref m12, .ref m13, .ref m14, .ref m15, .ref m16, .ref m17, .ref m18, .ref m19, .ref m20, .ref m21, .ref m22, .ref m23, .ref m24, .ref m25, .ref m26, .ref m27, .ref m28, .ref m29, .ref m30, .ref m31, .ref m32, .ref m33, .ref m34, .ref m35, .ref m36, .ref m37, .ref m38, .int 0, .int 0, .ref m41, .ref m42, .ref m43, .ref m44, .int 0, .int 0, .ref m47, .ref m48, .ref m49, .ref m50, .ref m51, .ref m52, .ref m53, .ref m54])), (m0, .inl (cB, 1620, .inl f_25))] := hD
  refine lv_iinc (v := 3) (lv' := [(6, .int 3), (7, .int p0), (0, .ref m0_), (1, .int p0), (2, .int p1), (3, .int p2), (4, .int p3), (5, .int p4)]) hx hb d_Mo_feed_99 hl (k := 1) rfl (by decide +kernel) (by decide) rfl (fun ls hl => ?_)
  refine lv_goto (tgt := 18) hx hb d_Mo_feed_102 (by decide) ?_
  refine lv_iload hx hb d_Mo_feed_18 (lv_at hl 0 rfl) ?_
  refine lv_bipush (v := 20) hx hb d_Mo_feed_20 (by decide +kernel) ?_
  refine lv_icmp_ge (tgt := 105) hx hb d_Mo_feed_22 (by decide) (fun c_26 => absurd c_26 (by decide +kernel)) (fun c_26 => ?_)
  refine lv_iload hx hb d_Mo_feed_25 (lv_at hl 0 rfl) ?_
  refine lv_iconst (v := 4) hx hb d_Mo_feed_27 (by decide +kernel) ?_
  refine lv_icmp_ge (tgt := 35) hx hb d_Mo_feed_28 (by decide) (fun c_27 => absurd c_27 (by decide +kernel)) (fun c_27 => ?_)
  refine lv_iload_n hx hb d_Mo_feed_31 rfl (lv_at hl 3 rfl) ?_
  refine lv_goto (tgt := 71) hx hb d_Mo_feed_32 (by decide) ?_
  refine lv_istore (lv' := [(7, .int p0), (6, .int 3), (0, .ref m0_), (1, .int p0), (2, .int p1), (3, .int p2), (4, .int p3), (5, .int p4)]) hx hb d_Mo_feed_71 hl (by decide) rfl (fun ls hl => ?_)
  refine lv_aload_n hx hb d_Mo_feed_73 rfl (lv_at hl 2 rfl) ?_
  refine va_get (D := D) (ci := 12) (v := .ref m0) (C := R_Mo) (T := F_Mo) (N := 55) hx hb hts i_Mo hown hK.1 hP 0 rfl rfl 0 (by decide) (hts _ k_1018) (fun _ h9 => h9) rfl d_Mo_feed_74 ?_
  refine lv_aload_n hx hb d_Mo_feed_77 rfl (lv_at hl 2 rfl) ?_
  refine va_get (D := D) (ci := 12) (v := .int 0) (C := R_Mo) (T := F_Mo) (N := 55) hx hb hts i_Mo hown hK.1 hP 0 rfl rfl 2 (by decide) (hts _ k_1020) (fun _ h9 => h9) rfl d_Mo_feed_78 ?_
  refine lv_iload hx hb d_Mo_feed_81 (lv_at hl 1 rfl) ?_
  refine lv_iadd hx hb d_Mo_feed_83 ?_
  refine nz_ctopi (v := 3) (by decide +kernel) ?_
  refine lv_iload hx hb d_Mo_feed_84 (lv_at hl 0 rfl) ?_
  refine lv_bipush (v := 24) hx hb d_Mo_feed_86 (by decide +kernel) ?_
  refine lv_bipush (v := 8) hx hb d_Mo_feed_88 (by decide +kernel) ?_
  refine lv_iload hx hb d_Mo_feed_90 (lv_at hl 1 rfl) ?_
  refine lv_iconst (v := 3) hx hb d_Mo_feed_92 (by decide +kernel) ?_
  refine lv_iand hx hb d_Mo_feed_93 ?_
  refine nz_ctopi (v := 3) (by decide +kernel) ?_
  refine lv_imul hx hb d_Mo_feed_94 ?_
  refine nz_ctopi (v := 24) (by decide +kernel) ?_
  refine lv_isub hx hb d_Mo_feed_95 ?_
  refine nz_ctopi (v := 0) (by decide +kernel) ?_
  refine lv_ishr hx hb d_Mo_feed_96 ?_
  refine lv_topi (fun x_28 e_29 => ?_)
  refine lv_i2b (v := x_28.toInt8.toInt32) hx hb d_Mo_feed_97 rfl ?_
  refine lv_topi (fun x_31 e_32 => ?_)
  refine nz_bastE hx hb hK.1 hP hD hS 1 0 rfl rfl (nz_vin (by decide +kernel)) d_Mo_feed_98 (fun H locs f_33 f_33_e hP hD hS => ?_)
  have hP : va_P D nz_cl [(m0_, .inr (12, [.ref m0, .ref m1, .int 0, .int 0, .int 0, .int (-1), .int 0, .int 0, .int 0, .int 0, .long 0, .ref m11, .ref m12, .ref m13, .ref m14, .ref m15, .ref m16, .ref m17, .ref m18, .ref m19, .ref m20, .ref m21, .ref m22, .ref m23, .ref m24, .ref m25, .ref m26, .ref m27, .ref m28, .ref m29, .ref m30, .ref m31, .ref m32, .ref m33, .ref m34, .ref m35, .ref m36, .ref m37, .ref m38, .int 0, .int 0, .ref m41, .ref m42, .ref m43, .ref m44, .int 0, .int 0, .ref m47, .ref m48, .ref m49, .ref m50, .ref m51, .ref m52, .ref m53, .ref m54])), (m0, .inl (cB, 1620, .inl f_33))] H := hP
  have hD : va_D A [(m0_, .inr (12, [.ref m0, .ref m1, .int 0, .int 0, .int 0, .int (-1), .int 0, .int 0, .int 0, .int 0, .long 0, .ref m11, .ref m12, .ref m13, .ref m14, .ref m15, .ref m16, .ref m17, .ref m18, .ref m19, .ref m20, .ref m21, .ref m22, .ref m23, .ref m24, .ref m25, .ref m26, .ref m27, .ref m28, .ref m29, .ref m30, .ref m31, .ref m32, .ref m33, .ref m34, .ref m35, .ref m36, .ref m37, .ref m38, .int 0, .int 0, .ref m41, .ref m42, .ref m43, .ref m44, .int 0, .int 0, .ref m47, .ref m48, .ref m49, .ref m50, .ref m51, .ref m52, .ref m53, .ref m54])), (m0, .inl (cB, 1620, .inl f_33))] := hD
  refine lv_iinc (v := 4) (lv' := [(6, .int 4), (7, .int p0), (0, .ref m0_), (1, .int p0), (2, .int p1), (3, .int p2), (4, .int p3), (5, .int p4)]) hx hb d_Mo_feed_99 hl (k := 1) rfl (by decide +kernel) (by decide) rfl (fun ls hl => ?_)
  refine lv_goto (tgt := 18) hx hb d_Mo_feed_102 (by decide) ?_
  refine lv_iload hx hb d_Mo_feed_18 (lv_at hl 0 rfl) ?_
  refine lv_bipush (v := 20) hx hb d_Mo_feed_20 (by decide +kernel) ?_
  refine lv_icmp_ge (tgt := 105) hx hb d_Mo_feed_22 (by decide) (fun c_34 => absurd c_34 (by decide +kernel)) (fun c_34 => ?_)
  refine lv_iload hx hb d_Mo_feed_25 (lv_at hl 0 rfl) ?_
  refine lv_iconst (v := 4) hx hb d_Mo_feed_27 (by decide +kernel) ?_
  refine lv_icmp_ge (tgt := 35) hx hb d_Mo_feed_28 (by decide) (fun c_35 => ?_) (fun c_35 => absurd (by decide +kernel) c_35)
  refine lv_iload hx hb d_Mo_feed_35 (lv_at hl 0 rfl) ?_
  refine lv_bipush (v := 8) hx hb d_Mo_feed_37 (by decide +kernel) ?_
  refine lv_icmp_ge (tgt := 46) hx hb d_Mo_feed_39 (by decide) (fun c_36 => absurd c_36 (by decide +kernel)) (fun c_36 => ?_)
  refine lv_iload_n hx hb d_Mo_feed_42 rfl (lv_at hl 4 rfl) ?_
  refine lv_goto (tgt := 71) hx hb d_Mo_feed_43 (by decide) ?_
  refine lv_istore (lv' := [(7, .int p1), (6, .int 4), (0, .ref m0_), (1, .int p0), (2, .int p1), (3, .int p2), (4, .int p3), (5, .int p4)]) hx hb d_Mo_feed_71 hl (by decide) rfl (fun ls hl => ?_)
  refine lv_aload_n hx hb d_Mo_feed_73 rfl (lv_at hl 2 rfl) ?_
  refine va_get (D := D) (ci := 12) (v := .ref m0) (C := R_Mo) (T := F_Mo) (N := 55) hx hb hts i_Mo hown hK.1 hP 0 rfl rfl 0 (by decide) (hts _ k_1018) (fun _ h9 => h9) rfl d_Mo_feed_74 ?_
  refine lv_aload_n hx hb d_Mo_feed_77 rfl (lv_at hl 2 rfl) ?_
  refine va_get (D := D) (ci := 12) (v := .int 0) (C := R_Mo) (T := F_Mo) (N := 55) hx hb hts i_Mo hown hK.1 hP 0 rfl rfl 2 (by decide) (hts _ k_1020) (fun _ h9 => h9) rfl d_Mo_feed_78 ?_
  refine lv_iload hx hb d_Mo_feed_81 (lv_at hl 1 rfl) ?_
  refine lv_iadd hx hb d_Mo_feed_83 ?_
  refine nz_ctopi (v := 4) (by decide +kernel) ?_
  refine lv_iload hx hb d_Mo_feed_84 (lv_at hl 0 rfl) ?_
  refine lv_bipush (v := 24) hx hb d_Mo_feed_86 (by decide +kernel) ?_
  refine lv_bipush (v := 8) hx hb d_Mo_feed_88 (by decide +kernel) ?_
  refine lv_iload hx hb d_Mo_feed_90 (lv_at hl 1 rfl) ?_
  refine lv_iconst (v := 3) hx hb d_Mo_feed_92 (by decide +kernel) ?_
  refine lv_iand hx hb d_Mo_feed_93 ?_
  refine nz_ctopi (v := 0) (by decide +kernel) ?_
  refine lv_imul hx hb d_Mo_feed_94 ?_
  refine nz_ctopi (v := 0) (by decide +kernel) ?_
  refine lv_isub hx hb d_Mo_feed_95 ?_
  refine nz_ctopi (v := 24) (by decide +kernel) ?_
  refine lv_ishr hx hb d_Mo_feed_96 ?_
  refine lv_topi (fun x_37 e_38 => ?_)
  refine lv_i2b (v := x_37.toInt8.toInt32) hx hb d_Mo_feed_97 rfl ?_
  refine lv_topi (fun x_40 e_41 => ?_)
  refine nz_bastE hx hb hK.1 hP hD hS 1 0 rfl rfl (nz_vin (by decide +kernel)) d_Mo_feed_98 (fun H locs f_42 f_42_e hP hD hS => ?_)
  have hP : va_P D nz_cl [(m0_, .inr (12, [.ref m0, .ref m1, .int 0, .int 0, .int 0, .int (-1), .int 0, .int 0, .int 0, .int 0, .long 0, .ref m11, .ref m12, .ref m13, .ref m14, .ref m15, .ref m16, .ref m17, .ref m18, .ref m19, .ref m20, .ref m21, .ref m22, .ref m23, .ref m24, .ref m25, .ref m26, .ref m27, .ref m28, .ref m29, .ref m30, .ref m31, .ref m32, .ref m33, .ref m34, .ref m35, .ref m36, .ref m37, .ref m38, .int 0, .int 0, .ref m41, .ref m42, .ref m43, .ref m44, .int 0, .int 0, .ref m47, .ref m48, .ref m49, .ref m50, .ref m51, .ref m52, .ref m53, .ref m54])), (m0, .inl (cB, 1620, .inl f_42))] H := hP
  have hD : va_D A [(m0_, .inr (12, [.ref m0, .ref m1, .int 0, .int 0, .int 0, .int (-1), .int 0, .int 0, .int 0, .int 0, .long 0, .ref m11, .ref m12, .ref m13, .ref m14, .ref m15, .ref m16, .ref m17, .ref m18, .ref m19, .ref m20, .ref m21, .ref m22, .ref m23, .ref m24, .ref m25, .ref m26, .ref m27, .ref m28, .ref m29, .ref m30, .ref m31, .ref m32, .ref m33, .ref m34, .ref m35, .ref m36, .ref m37, .ref m38, .int 0, .int 0, .ref m41, .ref m42, .ref m43, .ref m44, .int 0, .int 0, .ref m47, .ref m48, .ref m49, .ref m50, .ref m51, .ref m52, .ref m53, .ref m54])), (m0, .inl (cB, 1620, .inl f_42))] := hD
  refine lv_iinc (v := 5) (lv' := [(6, .int 5), (7, .int p1), (0, .ref m0_), (1, .int p0), (2, .int p1), (3, .int p2), (4, .int p3), (5, .int p4)]) hx hb d_Mo_feed_99 hl (k := 1) rfl (by decide +kernel) (by decide) rfl (fun ls hl => ?_)
  refine lv_goto (tgt := 18) hx hb d_Mo_feed_102 (by decide) ?_
  refine lv_iload hx hb d_Mo_feed_18 (lv_at hl 0 rfl) ?_
  refine lv_bipush (v := 20) hx hb d_Mo_feed_20 (by decide +kernel) ?_
  refine lv_icmp_ge (tgt := 105) hx hb d_Mo_feed_22 (by decide) (fun c_43 => absurd c_43 (by decide +kernel)) (fun c_43 => ?_)
  refine lv_iload hx hb d_Mo_feed_25 (lv_at hl 0 rfl) ?_
  refine lv_iconst (v := 4) hx hb d_Mo_feed_27 (by decide +kernel) ?_
  refine lv_icmp_ge (tgt := 35) hx hb d_Mo_feed_28 (by decide) (fun c_44 => ?_) (fun c_44 => absurd (by decide +kernel) c_44)
  refine lv_iload hx hb d_Mo_feed_35 (lv_at hl 0 rfl) ?_
  refine lv_bipush (v := 8) hx hb d_Mo_feed_37 (by decide +kernel) ?_
  refine lv_icmp_ge (tgt := 46) hx hb d_Mo_feed_39 (by decide) (fun c_45 => absurd c_45 (by decide +kernel)) (fun c_45 => ?_)
  refine lv_iload_n hx hb d_Mo_feed_42 rfl (lv_at hl 4 rfl) ?_
  refine lv_goto (tgt := 71) hx hb d_Mo_feed_43 (by decide) ?_
  refine lv_istore (lv' := [(7, .int p1), (6, .int 5), (0, .ref m0_), (1, .int p0), (2, .int p1), (3, .int p2), (4, .int p3), (5, .int p4)]) hx hb d_Mo_feed_71 hl (by decide) rfl (fun ls hl => ?_)
  refine lv_aload_n hx hb d_Mo_feed_73 rfl (lv_at hl 2 rfl) ?_
  refine va_get (D := D) (ci := 12) (v := .ref m0) (C := R_Mo) (T := F_Mo) (N := 55) hx hb hts i_Mo hown hK.1 hP 0 rfl rfl 0 (by decide) (hts _ k_1018) (fun _ h9 => h9) rfl d_Mo_feed_74 ?_
  refine lv_aload_n hx hb d_Mo_feed_77 rfl (lv_at hl 2 rfl) ?_
  refine va_get (D := D) (ci := 12) (v := .int 0) (C := R_Mo) (T := F_Mo) (N := 55) hx hb hts i_Mo hown hK.1 hP 0 rfl rfl 2 (by decide) (hts _ k_1020) (fun _ h9 => h9) rfl d_Mo_feed_78 ?_
  refine lv_iload hx hb d_Mo_feed_81 (lv_at hl 1 rfl) ?_
  refine lv_iadd hx hb d_Mo_feed_83 ?_
  refine nz_ctopi (v := 5) (by decide +kernel) ?_
  refine lv_iload hx hb d_Mo_feed_84 (lv_at hl 0 rfl) ?_
  refine lv_bipush (v := 24) hx hb d_Mo_feed_86 (by decide +kernel) ?_
  refine lv_bipush (v := 8) hx hb d_Mo_feed_88 (by decide +kernel) ?_
  refine lv_iload hx hb d_Mo_feed_90 (lv_at hl 1 rfl) ?_
  refine lv_iconst (v := 3) hx hb d_Mo_feed_92 (by decide +kernel) ?_
  refine lv_iand hx hb d_Mo_feed_93 ?_
  refine nz_ctopi (v := 1) (by decide +kernel) ?_
  refine lv_imul hx hb d_Mo_feed_94 ?_
  refine nz_ctopi (v := 8) (by decide +kernel) ?_
  refine lv_isub hx hb d_Mo_feed_95 ?_
  refine nz_ctopi (v := 16) (by decide +kernel) ?_
  refine lv_ishr hx hb d_Mo_feed_96 ?_
  refine lv_topi (fun x_46 e_47 => ?_)
  refine lv_i2b (v := x_46.toInt8.toInt32) hx hb d_Mo_feed_97 rfl ?_
  refine lv_topi (fun x_49 e_50 => ?_)
  refine nz_bastE hx hb hK.1 hP hD hS 1 0 rfl rfl (nz_vin (by decide +kernel)) d_Mo_feed_98 (fun H locs f_51 f_51_e hP hD hS => ?_)
  have hP : va_P D nz_cl [(m0_, .inr (12, [.ref m0, .ref m1, .int 0, .int 0, .int 0, .int (-1), .int 0, .int 0, .int 0, .int 0, .long 0, .ref m11, .ref m12, .ref m13, .ref m14, .ref m15, .ref m16, .ref m17, .ref m18, .ref m19, .ref m20, .ref m21, .ref m22, .ref m23, .ref m24, .ref m25, .ref m26, .ref m27, .ref m28, .ref m29, .ref m30, .ref m31, .ref m32, .ref m33, .ref m34, .ref m35, .ref m36, .ref m37, .ref m38, .int 0, .int 0, .ref m41, .ref m42, .ref m43, .ref m44, .int 0, .int 0, .ref m47, .ref m48, .ref m49, .ref m50, .ref m51, .ref m52, .ref m53, .ref m54])), (m0, .inl (cB, 1620, .inl f_51))] H := hP
  have hD : va_D A [(m0_, .inr (12, [.ref m0, .ref m1, .int 0, .int 0, .int 0, .int (-1), .int 0, .int 0, .int 0, .int 0, .long 0, .ref m11, .ref m12, .ref m13, .ref m14, .ref m15, .ref m16, .ref m17, .ref m18, .ref m19, .ref m20, .ref m21, .ref m22, .ref m23, .ref m24, .ref m25, .ref m26, .ref m27, .ref m28, .ref m29, .ref m30, .ref m31, .ref m32, .ref m33, .ref m34, .ref m35, .ref m36, .ref m37, .ref m38, .int 0, .int 0, .ref m41, .ref m42, .ref m43, .ref m44, .int 0, .int 0, .ref m47, .ref m48, .ref m49, .ref m50, .ref m51, .ref m52, .ref m53, .ref m54])), (m0, .inl (cB, 1620, .inl f_51))] := hD
  refine lv_iinc (v := 6) (lv' := [(6, .int 6), (7, .int p1), (0, .ref m0_), (1, .int p0), (2, .int p1), (3, .int p2), (4, .int p3), (5, .int p4)]) hx hb d_Mo_feed_99 hl (k := 1) rfl (by decide +kernel) (by decide) rfl (fun ls hl => ?_)
  refine lv_goto (tgt := 18) hx hb d_Mo_feed_102 (by decide) ?_
  refine lv_iload hx hb d_Mo_feed_18 (lv_at hl 0 rfl) ?_
  refine lv_bipush (v := 20) hx hb d_Mo_feed_20 (by decide +kernel) ?_
  refine lv_icmp_ge (tgt := 105) hx hb d_Mo_feed_22 (by decide) (fun c_52 => absurd c_52 (by decide +kernel)) (fun c_52 => ?_)
  refine lv_iload hx hb d_Mo_feed_25 (lv_at hl 0 rfl) ?_
  refine lv_iconst (v := 4) hx hb d_Mo_feed_27 (by decide +kernel) ?_
  refine lv_icmp_ge (tgt := 35) hx hb d_Mo_feed_28 (by decide) (fun c_53 => ?_) (fun c_53 => absurd (by decide +kernel) c_53)
  refine lv_iload hx hb d_Mo_feed_35 (lv_at hl 0 rfl) ?_
  refine lv_bipush (v := 8) hx hb d_Mo_feed_37 (by decide +kernel) ?_
  refine lv_icmp_ge (tgt := 46) hx hb d_Mo_feed_39 (by decide) (fun c_54 => absurd c_54 (by decide +kernel)) (fun c_54 => ?_)
  refine lv_iload_n hx hb d_Mo_feed_42 rfl (lv_at hl 4 rfl) ?_
  refine lv_goto (tgt := 71) hx hb d_Mo_feed_43 (by decide) ?_
  refine lv_istore (lv' := [(7, .int p1), (6, .int 6), (0, .ref m0_), (1, .int p0), (2, .int p1), (3, .int p2), (4, .int p3), (5, .int p4)]) hx hb d_Mo_feed_71 hl (by decide) rfl (fun ls hl => ?_)
  refine lv_aload_n hx hb d_Mo_feed_73 rfl (lv_at hl 2 rfl) ?_
  refine va_get (D := D) (ci := 12) (v := .ref m0) (C := R_Mo) (T := F_Mo) (N := 55) hx hb hts i_Mo hown hK.1 hP 0 rfl rfl 0 (by decide) (hts _ k_1018) (fun _ h9 => h9) rfl d_Mo_feed_74 ?_
  refine lv_aload_n hx hb d_Mo_feed_77 rfl (lv_at hl 2 rfl) ?_
  refine va_get (D := D) (ci := 12) (v := .int 0) (C := R_Mo) (T := F_Mo) (N := 55) hx hb hts i_Mo hown hK.1 hP 0 rfl rfl 2 (by decide) (hts _ k_1020) (fun _ h9 => h9) rfl d_Mo_feed_78 ?_
  refine lv_iload hx hb d_Mo_feed_81 (lv_at hl 1 rfl) ?_
  refine lv_iadd hx hb d_Mo_feed_83 ?_
  refine nz_ctopi (v := 6) (by decide +kernel) ?_
  refine lv_iload hx hb d_Mo_feed_84 (lv_at hl 0 rfl) ?_
  refine lv_bipush (v := 24) hx hb d_Mo_feed_86 (by decide +kernel) ?_
  refine lv_bipush (v := 8) hx hb d_Mo_feed_88 (by decide +kernel) ?_
  refine lv_iload hx hb d_Mo_feed_90 (lv_at hl 1 rfl) ?_
  refine lv_iconst (v := 3) hx hb d_Mo_feed_92 (by decide +kernel) ?_
  refine lv_iand hx hb d_Mo_feed_93 ?_
  refine nz_ctopi (v := 2) (by decide +kernel) ?_
  refine lv_imul hx hb d_Mo_feed_94 ?_
  refine nz_ctopi (v := 16) (by decide +kernel) ?_
  refine lv_isub hx hb d_Mo_feed_95 ?_
  refine nz_ctopi (v := 8) (by decide +kernel) ?_
  refine lv_ishr hx hb d_Mo_feed_96 ?_
  refine lv_topi (fun x_55 e_56 => ?_)
  refine lv_i2b (v := x_55.toInt8.toInt32) hx hb d_Mo_feed_97 rfl ?_
  refine lv_topi (fun x_58 e_59 => ?_)
  refine nz_bastE hx hb hK.1 hP hD hS 1 0 rfl rfl (nz_vin (by decide +kernel)) d_Mo_feed_98 (fun H locs f_60 f_60_e hP hD hS => ?_)
  have hP : va_P D nz_cl [(m0_, .inr (12, [.ref m0, .ref m1, .int 0, .int 0, .int 0, .int (-1), .int 0, .int 0, .int 0, .int 0, .long 0, .ref m11, .ref m12, .ref m13, .ref m14, .ref m15, .ref m16, .ref m17, .ref m18, .ref m19, .ref m20, .ref m21, .ref m22, .ref m23, .ref m24, .ref m25, .ref m26, .ref m27, .ref m28, .ref m29, .ref m30, .ref m31, .ref m32, .ref m33, .ref m34, .ref m35, .ref m36, .ref m37, .ref m38, .int 0, .int 0, .ref m41, .ref m42, .ref m43, .ref m44, .int 0, .int 0, .ref m47, .ref m48, .ref m49, .ref m50, .ref m51, .ref m52, .ref m53, .ref m54])), (m0, .inl (cB, 1620, .inl f_60))] H := hP
  have hD : va_D A [(m0_, .inr (12, [.ref m0, .ref m1, .int 0, .int 0, .int 0, .int (-1), .int 0, .int 0, .int 0, .int 0, .long 0, .ref m11, .ref m12, .ref m13, .ref m14, .ref m15, .ref m16, .ref m17, .ref m18, .ref m19, .ref m20, .ref m21, .ref m22, .ref m23, .ref m24, .ref m25, .ref m26, .ref m27, .ref m28, .ref m29, .ref m30, .ref m31, .ref m32, .ref m33, .ref m34, .ref m35, .ref m36, .ref m37, .ref m38, .int 0, .int 0, .ref m41, .ref m42, .ref m43, .ref m44, .int 0, .int 0, .ref m47, .ref m48, .ref m49, .ref m50, .ref m51, .ref m52, .ref m53, .ref m54])), (m0, .inl (cB, 1620, .inl f_60))] := hD
  refine lv_iinc (v := 7) (lv' := [(6, .int 7), (7, .int p1), (0, .ref m0_), (1, .int p0), (2, .int p1), (3, .int p2), (4, .int p3), (5, .int p4)]) hx hb d_Mo_feed_99 hl (k := 1) rfl (by decide +kernel) (by decide) rfl (fun ls hl => ?_)
  refine lv_goto (tgt := 18) hx hb d_Mo_feed_102 (by decide) ?_
  refine lv_iload hx hb d_Mo_feed_18 (lv_at hl 0 rfl) ?_
  refine lv_bipush (v := 20) hx hb d_Mo_feed_20 (by decide +kernel) ?_
  refine lv_icmp_ge (tgt := 105) hx hb d_Mo_feed_22 (by decide) (fun c_61 => absurd c_61 (by decide +kernel)) (fun c_61 => ?_)
  refine lv_iload hx hb d_Mo_feed_25 (lv_at hl 0 rfl) ?_
  refine lv_iconst (v := 4) hx hb d_Mo_feed_27 (by decide +kernel) ?_
  refine lv_icmp_ge (tgt := 35) hx hb d_Mo_feed_28 (by decide) (fun c_62 => ?_) (fun c_62 => absurd (by decide +kernel) c_62)
  refine lv_iload hx hb d_Mo_feed_35 (lv_at hl 0 rfl) ?_
  refine lv_bipush (v := 8) hx hb d_Mo_feed_37 (by decide +kernel) ?_
  refine lv_icmp_ge (tgt := 46) hx hb d_Mo_feed_39 (by decide) (fun c_63 => absurd c_63 (by decide +kernel)) (fun c_63 => ?_)
  refine lv_iload_n hx hb d_Mo_feed_42 rfl (lv_at hl 4 rfl) ?_
  refine lv_goto (tgt := 71) hx hb d_Mo_feed_43 (by decide) ?_
  refine lv_istore (lv' := [(7, .int p1), (6, .int 7), (0, .ref m0_), (1, .int p0), (2, .int p1), (3, .int p2), (4, .int p3), (5, .int p4)]) hx hb d_Mo_feed_71 hl (by decide) rfl (fun ls hl => ?_)
  refine lv_aload_n hx hb d_Mo_feed_73 rfl (lv_at hl 2 rfl) ?_
  refine va_get (D := D) (ci := 12) (v := .ref m0) (C := R_Mo) (T := F_Mo) (N := 55) hx hb hts i_Mo hown hK.1 hP 0 rfl rfl 0 (by decide) (hts _ k_1018) (fun _ h9 => h9) rfl d_Mo_feed_74 ?_
  refine lv_aload_n hx hb d_Mo_feed_77 rfl (lv_at hl 2 rfl) ?_
  refine va_get (D := D) (ci := 12) (v := .int 0) (C := R_Mo) (T := F_Mo) (N := 55) hx hb hts i_Mo hown hK.1 hP 0 rfl rfl 2 (by decide) (hts _ k_1020) (fun _ h9 => h9) rfl d_Mo_feed_78 ?_
  refine lv_iload hx hb d_Mo_feed_81 (lv_at hl 1 rfl) ?_
  refine lv_iadd hx hb d_Mo_feed_83 ?_
  refine nz_ctopi (v := 7) (by decide +kernel) ?_
  refine lv_iload hx hb d_Mo_feed_84 (lv_at hl 0 rfl) ?_
  refine lv_bipush (v := 24) hx hb d_Mo_feed_86 (by decide +kernel) ?_
  refine lv_bipush (v := 8) hx hb d_Mo_feed_88 (by decide +kernel) ?_
  refine lv_iload hx hb d_Mo_feed_90 (lv_at hl 1 rfl) ?_
  refine lv_iconst (v := 3) hx hb d_Mo_feed_92 (by decide +kernel) ?_
  refine lv_iand hx hb d_Mo_feed_93 ?_
  refine nz_ctopi (v := 3) (by decide +kernel) ?_
  refine lv_imul hx hb d_Mo_feed_94 ?_
  refine nz_ctopi (v := 24) (by decide +kernel) ?_
  refine lv_isub hx hb d_Mo_feed_95 ?_
  refine nz_ctopi (v := 0) (by decide +kernel) ?_
  refine lv_ishr hx hb d_Mo_feed_96 ?_
  refine lv_topi (fun x_64 e_65 => ?_)
  refine lv_i2b (v := x_64.toInt8.toInt32) hx hb d_Mo_feed_97 rfl ?_
  refine lv_topi (fun x_67 e_68 => ?_)
  refine nz_bastE hx hb hK.1 hP hD hS 1 0 rfl rfl (nz_vin (by decide +kernel)) d_Mo_feed_98 (fun H locs f_69 f_69_e hP hD hS => ?_)
  have hP : va_P D nz_cl [(m0_, .inr (12, [.ref m0, .ref m1, .int 0, .int 0, .int 0, .int (-1), .int 0, .int 0, .int 0, .int 0, .long 0, .ref m11, .ref m12, .ref m13, .ref m14, .ref m15, .ref m16, .ref m17, .ref m18, .ref m19, .ref m20, .ref m21, .ref m22, .ref m23, .ref m24, .ref m25, .ref m26, .ref m27, .ref m28, .ref m29, .ref m30, .ref m31, .ref m32, .ref m33, .ref m34, .ref m35, .ref m36, .ref m37, .ref m38, .int 0, .int 0, .ref m41, .ref m42, .ref m43, .ref m44, .int 0, .int 0, .ref m47, .ref m48, .ref m49, .ref m50, .ref m51, .ref m52, .ref m53, .ref m54])), (m0, .inl (cB, 1620, .inl f_69))] H := hP
  have hD : va_D A [(m0_, .inr (12, [.ref m0, .ref m1, .int 0, .int 0, .int 0, .int (-1), .int 0, .int 0, .int 0, .int 0, .long 0, .ref m11, .ref m12, .ref m13, .ref m14, .ref m15, .ref m16, .ref m17, .ref m18, .ref m19, .ref m20, .ref m21, .ref m22, .ref m23, .ref m24, .ref m25, .ref m26, .ref m27, .ref m28, .ref m29, .ref m30, .ref m31, .ref m32, .ref m33, .ref m34, .ref m35, .ref m36, .ref m37, .ref m38, .int 0, .int 0, .ref m41, .ref m42, .ref m43, .ref m44, .int 0, .int 0, .ref m47, .ref m48, .ref m49, .ref m50, .ref m51, .ref m52, .ref m53, .ref m54])), (m0, .inl (cB, 1620, .inl f_69))] := hD
  refine lv_iinc (v := 8) (lv' := [(6, .int 8), (7, .int p1), (0, .ref m0_), (1, .int p0), (2, .int p1), (3, .int p2), (4, .int p3), (5, .int p4)]) hx hb d_Mo_feed_99 hl (k := 1) rfl (by decide +kernel) (by decide) rfl (fun ls hl => ?_)
  refine lv_goto (tgt := 18) hx hb d_Mo_feed_102 (by decide) ?_
  refine lv_iload hx hb d_Mo_feed_18 (lv_at hl 0 rfl) ?_
  refine lv_bipush (v := 20) hx hb d_Mo_feed_20 (by decide +kernel) ?_
  refine lv_icmp_ge (tgt := 105) hx hb d_Mo_feed_22 (by decide) (fun c_70 => absurd c_70 (by decide +kernel)) (fun c_70 => ?_)
  refine lv_iload hx hb d_Mo_feed_25 (lv_at hl 0 rfl) ?_
  refine lv_iconst (v := 4) hx hb d_Mo_feed_27 (by decide +kernel) ?_
  refine lv_icmp_ge (tgt := 35) hx hb d_Mo_feed_28 (by decide) (fun c_71 => ?_) (fun c_71 => absurd (by decide +kernel) c_71)
  refine lv_iload hx hb d_Mo_feed_35 (lv_at hl 0 rfl) ?_
  refine lv_bipush (v := 8) hx hb d_Mo_feed_37 (by decide +kernel) ?_
  refine lv_icmp_ge (tgt := 46) hx hb d_Mo_feed_39 (by decide) (fun c_72 => ?_) (fun c_72 => absurd (by decide +kernel) c_72)
  refine lv_iload hx hb d_Mo_feed_46 (lv_at hl 0 rfl) ?_
  refine lv_bipush (v := 12) hx hb d_Mo_feed_48 (by decide +kernel) ?_
  refine lv_icmp_ge (tgt := 57) hx hb d_Mo_feed_50 (by decide) (fun c_73 => absurd c_73 (by decide +kernel)) (fun c_73 => ?_)
  refine lv_iload_n hx hb d_Mo_feed_53 rfl (lv_at hl 5 rfl) ?_
  refine lv_goto (tgt := 71) hx hb d_Mo_feed_54 (by decide) ?_
  refine lv_istore (lv' := [(7, .int p2), (6, .int 8), (0, .ref m0_), (1, .int p0), (2, .int p1), (3, .int p2), (4, .int p3), (5, .int p4)]) hx hb d_Mo_feed_71 hl (by decide) rfl (fun ls hl => ?_)
  refine lv_aload_n hx hb d_Mo_feed_73 rfl (lv_at hl 2 rfl) ?_
  refine va_get (D := D) (ci := 12) (v := .ref m0) (C := R_Mo) (T := F_Mo) (N := 55) hx hb hts i_Mo hown hK.1 hP 0 rfl rfl 0 (by decide) (hts _ k_1018) (fun _ h9 => h9) rfl d_Mo_feed_74 ?_
  refine lv_aload_n hx hb d_Mo_feed_77 rfl (lv_at hl 2 rfl) ?_
  refine va_get (D := D) (ci := 12) (v := .int 0) (C := R_Mo) (T := F_Mo) (N := 55) hx hb hts i_Mo hown hK.1 hP 0 rfl rfl 2 (by decide) (hts _ k_1020) (fun _ h9 => h9) rfl d_Mo_feed_78 ?_
  refine lv_iload hx hb d_Mo_feed_81 (lv_at hl 1 rfl) ?_
  refine lv_iadd hx hb d_Mo_feed_83 ?_
  refine nz_ctopi (v := 8) (by decide +kernel) ?_
  refine lv_iload hx hb d_Mo_feed_84 (lv_at hl 0 rfl) ?_
  refine lv_bipush (v := 24) hx hb d_Mo_feed_86 (by decide +kernel) ?_
  refine lv_bipush (v := 8) hx hb d_Mo_feed_88 (by decide +kernel) ?_
  refine lv_iload hx hb d_Mo_feed_90 (lv_at hl 1 rfl) ?_
  refine lv_iconst (v := 3) hx hb d_Mo_feed_92 (by decide +kernel) ?_
  refine lv_iand hx hb d_Mo_feed_93 ?_
  refine nz_ctopi (v := 0) (by decide +kernel) ?_
  refine lv_imul hx hb d_Mo_feed_94 ?_
  refine nz_ctopi (v := 0) (by decide +kernel) ?_
  refine lv_isub hx hb d_Mo_feed_95 ?_
  refine nz_ctopi (v := 24) (by decide +kernel) ?_
  refine lv_ishr hx hb d_Mo_feed_96 ?_
  refine lv_topi (fun x_74 e_75 => ?_)
  refine lv_i2b (v := x_74.toInt8.toInt32) hx hb d_Mo_feed_97 rfl ?_
  refine lv_topi (fun x_77 e_78 => ?_)
  refine nz_bastE hx hb hK.1 hP hD hS 1 0 rfl rfl (nz_vin (by decide +kernel)) d_Mo_feed_98 (fun H locs f_79 f_79_e hP hD hS => ?_)
  have hP : va_P D nz_cl [(m0_, .inr (12, [.ref m0, .ref m1, .int 0, .int 0, .int 0, .int (-1), .int 0, .int 0, .int 0, .int 0, .long 0, .ref m11, .ref m12, .ref m13, .ref m14, .ref m15, .ref m16, .ref m17, .ref m18, .ref m19, .ref m20, .ref m21, .ref m22, .ref m23, .ref m24, .ref m25, .ref m26, .ref m27, .ref m28, .ref m29, .ref m30, .ref m31, .ref m32, .ref m33, .ref m34, .ref m35, .ref m36, .ref m37, .ref m38, .int 0, .int 0, .ref m41, .ref m42, .ref m43, .ref m44, .int 0, .int 0, .ref m47, .ref m48, .ref m49, .ref m50, .ref m51, .ref m52, .ref m53, .ref m54])), (m0, .inl (cB, 1620, .inl f_79))] H := hP
  have hD : va_D A [(m0_, .inr (12, [.ref m0, .ref m1, .int 0, .int 0, .int 0, .int (-1), .int 0, .int 0, .int 0, .int 0, .long 0, .ref m11, .ref m12, .ref m13, .ref m14, .ref m15, .ref m16, .ref m17, .ref m18, .ref m19, .ref m20, .ref m21, .ref m22, .ref m23, .ref m24, .ref m25, .ref m26, .ref m27, .ref m28, .ref m29, .ref m30, .ref m31, .ref m32, .ref m33, .ref m34, .ref m35, .ref m36, .ref m37, .ref m38, .int 0, .int 0, .ref m41, .ref m42, .ref m43, .ref m44, .int 0, .int 0, .ref m47, .ref m48, .ref m49, .ref m50, .ref m51, .ref m52, .ref m53, .ref m54])), (m0, .inl (cB, 1620, .inl f_79))] := hD
  refine lv_iinc (v := 9) (lv' := [(6, .int 9), (7, .int p2), (0, .ref m0_), (1, .int p0), (2, .int p1), (3, .int p2), (4, .int p3), (5, .int p4)]) hx hb d_Mo_feed_99 hl (k := 1) rfl (by decide +kernel) (by decide) rfl (fun ls hl => ?_)
  refine lv_goto (tgt := 18) hx hb d_Mo_feed_102 (by decide) ?_
  refine lv_iload hx hb d_Mo_feed_18 (lv_at hl 0 rfl) ?_
  refine lv_bipush (v := 20) hx hb d_Mo_feed_20 (by decide +kernel) ?_
  refine lv_icmp_ge (tgt := 105) hx hb d_Mo_feed_22 (by decide) (fun c_80 => absurd c_80 (by decide +kernel)) (fun c_80 => ?_)
  refine lv_iload hx hb d_Mo_feed_25 (lv_at hl 0 rfl) ?_
  refine lv_iconst (v := 4) hx hb d_Mo_feed_27 (by decide +kernel) ?_
  refine lv_icmp_ge (tgt := 35) hx hb d_Mo_feed_28 (by decide) (fun c_81 => ?_) (fun c_81 => absurd (by decide +kernel) c_81)
  refine lv_iload hx hb d_Mo_feed_35 (lv_at hl 0 rfl) ?_
  refine lv_bipush (v := 8) hx hb d_Mo_feed_37 (by decide +kernel) ?_
  refine lv_icmp_ge (tgt := 46) hx hb d_Mo_feed_39 (by decide) (fun c_82 => ?_) (fun c_82 => absurd (by decide +kernel) c_82)
  refine lv_iload hx hb d_Mo_feed_46 (lv_at hl 0 rfl) ?_
  refine lv_bipush (v := 12) hx hb d_Mo_feed_48 (by decide +kernel) ?_
  refine lv_icmp_ge (tgt := 57) hx hb d_Mo_feed_50 (by decide) (fun c_83 => absurd c_83 (by decide +kernel)) (fun c_83 => ?_)
  refine lv_iload_n hx hb d_Mo_feed_53 rfl (lv_at hl 5 rfl) ?_
  refine lv_goto (tgt := 71) hx hb d_Mo_feed_54 (by decide) ?_
  refine lv_istore (lv' := [(7, .int p2), (6, .int 9), (0, .ref m0_), (1, .int p0), (2, .int p1), (3, .int p2), (4, .int p3), (5, .int p4)]) hx hb d_Mo_feed_71 hl (by decide) rfl (fun ls hl => ?_)
  refine lv_aload_n hx hb d_Mo_feed_73 rfl (lv_at hl 2 rfl) ?_
  refine va_get (D := D) (ci := 12) (v := .ref m0) (C := R_Mo) (T := F_Mo) (N := 55) hx hb hts i_Mo hown hK.1 hP 0 rfl rfl 0 (by decide) (hts _ k_1018) (fun _ h9 => h9) rfl d_Mo_feed_74 ?_
  refine lv_aload_n hx hb d_Mo_feed_77 rfl (lv_at hl 2 rfl) ?_
  refine va_get (D := D) (ci := 12) (v := .int 0) (C := R_Mo) (T := F_Mo) (N := 55) hx hb hts i_Mo hown hK.1 hP 0 rfl rfl 2 (by decide) (hts _ k_1020) (fun _ h9 => h9) rfl d_Mo_feed_78 ?_
  refine lv_iload hx hb d_Mo_feed_81 (lv_at hl 1 rfl) ?_
  refine lv_iadd hx hb d_Mo_feed_83 ?_
  refine nz_ctopi (v := 9) (by decide +kernel) ?_
  refine lv_iload hx hb d_Mo_feed_84 (lv_at hl 0 rfl) ?_
  refine lv_bipush (v := 24) hx hb d_Mo_feed_86 (by decide +kernel) ?_
  refine lv_bipush (v := 8) hx hb d_Mo_feed_88 (by decide +kernel) ?_
  refine lv_iload hx hb d_Mo_feed_90 (lv_at hl 1 rfl) ?_
  refine lv_iconst (v := 3) hx hb d_Mo_feed_92 (by decide +kernel) ?_
  refine lv_iand hx hb d_Mo_feed_93 ?_
  refine nz_ctopi (v := 1) (by decide +kernel) ?_
  refine lv_imul hx hb d_Mo_feed_94 ?_
  refine nz_ctopi (v := 8) (by decide +kernel) ?_
  refine lv_isub hx hb d_Mo_feed_95 ?_
  refine nz_ctopi (v := 16) (by decide +kernel) ?_
  refine lv_ishr hx hb d_Mo_feed_96 ?_
  refine lv_topi (fun x_84 e_85 => ?_)
  refine lv_i2b (v := x_84.toInt8.toInt32) hx hb d_Mo_feed_97 rfl ?_
  refine lv_topi (fun x_87 e_88 => ?_)
  refine nz_bastE hx hb hK.1 hP hD hS 1 0 rfl rfl (nz_vin (by decide +kernel)) d_Mo_feed_98 (fun H locs f_89 f_89_e hP hD hS => ?_)
  have hP : va_P D nz_cl [(m0_, .inr (12, [.ref m0, .ref m1, .int 0, .int 0, .int 0, .int (-1), .int 0, .int 0, .int 0, .int 0, .long 0, .ref m11, .ref m12, .ref m13, .ref m14, .ref m15, .ref m16, .ref m17, .ref m18, .ref m19, .ref m20, .ref m21, .ref m22, .ref m23, .ref m24, .ref m25, .ref m26, .ref m27, .ref m28, .ref m29, .ref m30, .ref m31, .ref m32, .ref m33, .ref m34, .ref m35, .ref m36, .ref m37, .ref m38, .int 0, .int 0, .ref m41, .ref m42, .ref m43, .ref m44, .int 0, .int 0, .ref m47, .ref m48, .ref m49, .ref m50, .ref m51, .ref m52, .ref m53, .ref m54])), (m0, .inl (cB, 1620, .inl f_89))] H := hP
  have hD : va_D A [(m0_, .inr (12, [.ref m0, .ref m1, .int 0, .int 0, .int 0, .int (-1), .int 0, .int 0, .int 0, .int 0, .long 0, .ref m11, .ref m12, .ref m13, .ref m14, .ref m15, .ref m16, .ref m17, .ref m18, .ref m19, .ref m20, .ref m21, .ref m22, .ref m23, .ref m24, .ref m25, .ref m26, .ref m27, .ref m28, .ref m29, .ref m30, .ref m31, .ref m32, .ref m33, .ref m34, .ref m35, .ref m36, .ref m37, .ref m38, .int 0, .int 0, .ref m41, .ref m42, .ref m43, .ref m44, .int 0, .int 0, .ref m47, .ref m48, .ref m49, .ref m50, .ref m51, .ref m52, .ref m53, .ref m54])), (m0, .inl (cB, 1620, .inl f_89))] := hD
  refine lv_iinc (v := 10) (lv' := [(6, .int 10), (7, .int p2), (0, .ref m0_), (1, .int p0), (2, .int p1), (3, .int p2), (4, .int p3), (5, .int p4)]) hx hb d_Mo_feed_99 hl (k := 1) rfl (by decide +kernel) (by decide) rfl (fun ls hl => ?_)
  refine lv_goto (tgt := 18) hx hb d_Mo_feed_102 (by decide) ?_
  refine lv_iload hx hb d_Mo_feed_18 (lv_at hl 0 rfl) ?_
  refine lv_bipush (v := 20) hx hb d_Mo_feed_20 (by decide +kernel) ?_
  refine lv_icmp_ge (tgt := 105) hx hb d_Mo_feed_22 (by decide) (fun c_90 => absurd c_90 (by decide +kernel)) (fun c_90 => ?_)
  refine lv_iload hx hb d_Mo_feed_25 (lv_at hl 0 rfl) ?_
  refine lv_iconst (v := 4) hx hb d_Mo_feed_27 (by decide +kernel) ?_
  refine lv_icmp_ge (tgt := 35) hx hb d_Mo_feed_28 (by decide) (fun c_91 => ?_) (fun c_91 => absurd (by decide +kernel) c_91)
  refine lv_iload hx hb d_Mo_feed_35 (lv_at hl 0 rfl) ?_
  refine lv_bipush (v := 8) hx hb d_Mo_feed_37 (by decide +kernel) ?_
  refine lv_icmp_ge (tgt := 46) hx hb d_Mo_feed_39 (by decide) (fun c_92 => ?_) (fun c_92 => absurd (by decide +kernel) c_92)
  refine lv_iload hx hb d_Mo_feed_46 (lv_at hl 0 rfl) ?_
  refine lv_bipush (v := 12) hx hb d_Mo_feed_48 (by decide +kernel) ?_
  refine lv_icmp_ge (tgt := 57) hx hb d_Mo_feed_50 (by decide) (fun c_93 => absurd c_93 (by decide +kernel)) (fun c_93 => ?_)
  refine lv_iload_n hx hb d_Mo_feed_53 rfl (lv_at hl 5 rfl) ?_
  refine lv_goto (tgt := 71) hx hb d_Mo_feed_54 (by decide) ?_
  refine lv_istore (lv' := [(7, .int p2), (6, .int 10), (0, .ref m0_), (1, .int p0), (2, .int p1), (3, .int p2), (4, .int p3), (5, .int p4)]) hx hb d_Mo_feed_71 hl (by decide) rfl (fun ls hl => ?_)
  refine lv_aload_n hx hb d_Mo_feed_73 rfl (lv_at hl 2 rfl) ?_
  refine va_get (D := D) (ci := 12) (v := .ref m0) (C := R_Mo) (T := F_Mo) (N := 55) hx hb hts i_Mo hown hK.1 hP 0 rfl rfl 0 (by decide) (hts _ k_1018) (fun _ h9 => h9) rfl d_Mo_feed_74 ?_
  refine lv_aload_n hx hb d_Mo_feed_77 rfl (lv_at hl 2 rfl) ?_
  refine va_get (D := D) (ci := 12) (v := .int 0) (C := R_Mo) (T := F_Mo) (N := 55) hx hb hts i_Mo hown hK.1 hP 0 rfl rfl 2 (by decide) (hts _ k_1020) (fun _ h9 => h9) rfl d_Mo_feed_78 ?_
  refine lv_iload hx hb d_Mo_feed_81 (lv_at hl 1 rfl) ?_
  refine lv_iadd hx hb d_Mo_feed_83 ?_
  refine nz_ctopi (v := 10) (by decide +kernel) ?_
  refine lv_iload hx hb d_Mo_feed_84 (lv_at hl 0 rfl) ?_
  refine lv_bipush (v := 24) hx hb d_Mo_feed_86 (by decide +kernel) ?_
  refine lv_bipush (v := 8) hx hb d_Mo_feed_88 (by decide +kernel) ?_
  refine lv_iload hx hb d_Mo_feed_90 (lv_at hl 1 rfl) ?_
  refine lv_iconst (v := 3) hx hb d_Mo_feed_92 (by decide +kernel) ?_
  refine lv_iand hx hb d_Mo_feed_93 ?_
  refine nz_ctopi (v := 2) (by decide +kernel) ?_
  refine lv_imul hx hb d_Mo_feed_94 ?_
  refine nz_ctopi (v := 16) (by decide +kernel) ?_
  refine lv_isub hx hb d_Mo_feed_95 ?_
  refine nz_ctopi (v := 8) (by decide +kernel) ?_
  refine lv_ishr hx hb d_Mo_feed_96 ?_
  refine lv_topi (fun x_94 e_95 => ?_)
  refine lv_i2b (v := x_94.toInt8.toInt32) hx hb d_Mo_feed_97 rfl ?_
  refine lv_topi (fun x_97 e_98 => ?_)
  refine nz_bastE hx hb hK.1 hP hD hS 1 0 rfl rfl (nz_vin (by decide +kernel)) d_Mo_feed_98 (fun H locs f_99 f_99_e hP hD hS => ?_)
  have hP : va_P D nz_cl [(m0_, .inr (12, [.ref m0, .ref m1, .int 0, .int 0, .int 0, .int (-1), .int 0, .int 0, .int 0, .int 0, .long 0, .ref m11, .ref m12, .ref m13, .ref m14, .ref m15, .ref m16, .ref m17, .ref m18, .ref m19, .ref m20, .ref m21, .ref m22, .ref m23, .ref m24, .ref m25, .ref m26, .ref m27, .ref m28, .ref m29, .ref m30, .ref m31, .ref m32, .ref m33, .ref m34, .ref m35, .ref m36, .ref m37, .ref m38, .int 0, .int 0, .ref m41, .ref m42, .ref m43, .ref m44, .int 0, .int 0, .ref m47, .ref m48, .ref m49, .ref m50, .ref m51, .ref m52, .ref m53, .ref m54])), (m0, .inl (cB, 1620, .inl f_99))] H := hP
  have hD : va_D A [(m0_, .inr (12, [.ref m0, .ref m1, .int 0, .int 0, .int 0, .int (-1), .int 0, .int 0, .int 0, .int 0, .long 0, .ref m11, .ref m12, .ref m13, .ref m14, .ref m15, .ref m16, .ref m17, .ref m18, .ref m19, .ref m20, .ref m21, .ref m22, .ref m23, .ref m24, .ref m25, .ref m26, .ref m27, .ref m28, .ref m29, .ref m30, .ref m31, .ref m32, .ref m33, .ref m34, .ref m35, .ref m36, .ref m37, .ref m38, .int 0, .int 0, .ref m41, .ref m42, .ref m43, .ref m44, .int 0, .int 0, .ref m47, .ref m48, .ref m49, .ref m50, .ref m51, .ref m52, .ref m53, .ref m54])), (m0, .inl (cB, 1620, .inl f_99))] := hD
  refine lv_iinc (v := 11) (lv' := [(6, .int 11), (7, .int p2), (0, .ref m0_), (1, .int p0), (2, .int p1), (3, .int p2), (4, .int p3), (5, .int p4)]) hx hb d_Mo_feed_99 hl (k := 1) rfl (by decide +kernel) (by decide) rfl (fun ls hl => ?_)
  refine lv_goto (tgt := 18) hx hb d_Mo_feed_102 (by decide) ?_
  refine lv_iload hx hb d_Mo_feed_18 (lv_at hl 0 rfl) ?_
  refine lv_bipush (v := 20) hx hb d_Mo_feed_20 (by decide +kernel) ?_
  refine lv_icmp_ge (tgt := 105) hx hb d_Mo_feed_22 (by decide) (fun c_100 => absurd c_100 (by decide +kernel)) (fun c_100 => ?_)
  refine lv_iload hx hb d_Mo_feed_25 (lv_at hl 0 rfl) ?_
  refine lv_iconst (v := 4) hx hb d_Mo_feed_27 (by decide +kernel) ?_
  refine lv_icmp_ge (tgt := 35) hx hb d_Mo_feed_28 (by decide) (fun c_101 => ?_) (fun c_101 => absurd (by decide +kernel) c_101)
  refine lv_iload hx hb d_Mo_feed_35 (lv_at hl 0 rfl) ?_
  refine lv_bipush (v := 8) hx hb d_Mo_feed_37 (by decide +kernel) ?_
  refine lv_icmp_ge (tgt := 46) hx hb d_Mo_feed_39 (by decide) (fun c_102 => ?_) (fun c_102 => absurd (by decide +kernel) c_102)
  refine lv_iload hx hb d_Mo_feed_46 (lv_at hl 0 rfl) ?_
  refine lv_bipush (v := 12) hx hb d_Mo_feed_48 (by decide +kernel) ?_
  refine lv_icmp_ge (tgt := 57) hx hb d_Mo_feed_50 (by decide) (fun c_103 => absurd c_103 (by decide +kernel)) (fun c_103 => ?_)
  refine lv_iload_n hx hb d_Mo_feed_53 rfl (lv_at hl 5 rfl) ?_
  refine lv_goto (tgt := 71) hx hb d_Mo_feed_54 (by decide) ?_
  refine lv_istore (lv' := [(7, .int p2), (6, .int 11), (0, .ref m0_), (1, .int p0), (2, .int p1), (3, .int p2), (4, .int p3), (5, .int p4)]) hx hb d_Mo_feed_71 hl (by decide) rfl (fun ls hl => ?_)
  refine lv_aload_n hx hb d_Mo_feed_73 rfl (lv_at hl 2 rfl) ?_
  refine va_get (D := D) (ci := 12) (v := .ref m0) (C := R_Mo) (T := F_Mo) (N := 55) hx hb hts i_Mo hown hK.1 hP 0 rfl rfl 0 (by decide) (hts _ k_1018) (fun _ h9 => h9) rfl d_Mo_feed_74 ?_
  refine lv_aload_n hx hb d_Mo_feed_77 rfl (lv_at hl 2 rfl) ?_
  refine va_get (D := D) (ci := 12) (v := .int 0) (C := R_Mo) (T := F_Mo) (N := 55) hx hb hts i_Mo hown hK.1 hP 0 rfl rfl 2 (by decide) (hts _ k_1020) (fun _ h9 => h9) rfl d_Mo_feed_78 ?_
  refine lv_iload hx hb d_Mo_feed_81 (lv_at hl 1 rfl) ?_
  refine lv_iadd hx hb d_Mo_feed_83 ?_
  refine nz_ctopi (v := 11) (by decide +kernel) ?_
  refine lv_iload hx hb d_Mo_feed_84 (lv_at hl 0 rfl) ?_
  refine lv_bipush (v := 24) hx hb d_Mo_feed_86 (by decide +kernel) ?_
  refine lv_bipush (v := 8) hx hb d_Mo_feed_88 (by decide +kernel) ?_
  refine lv_iload hx hb d_Mo_feed_90 (lv_at hl 1 rfl) ?_
  refine lv_iconst (v := 3) hx hb d_Mo_feed_92 (by decide +kernel) ?_
  refine lv_iand hx hb d_Mo_feed_93 ?_
  refine nz_ctopi (v := 3) (by decide +kernel) ?_
  refine lv_imul hx hb d_Mo_feed_94 ?_
  refine nz_ctopi (v := 24) (by decide +kernel) ?_
  refine lv_isub hx hb d_Mo_feed_95 ?_
  refine nz_ctopi (v := 0) (by decide +kernel) ?_
  refine lv_ishr hx hb d_Mo_feed_96 ?_
  refine lv_topi (fun x_104 e_105 => ?_)
  refine lv_i2b (v := x_104.toInt8.toInt32) hx hb d_Mo_feed_97 rfl ?_
  refine lv_topi (fun x_107 e_108 => ?_)
  refine nz_bastE hx hb hK.1 hP hD hS 1 0 rfl rfl (nz_vin (by decide +kernel)) d_Mo_feed_98 (fun H locs f_109 f_109_e hP hD hS => ?_)
  have hP : va_P D nz_cl [(m0_, .inr (12, [.ref m0, .ref m1, .int 0, .int 0, .int 0, .int (-1), .int 0, .int 0, .int 0, .int 0, .long 0, .ref m11, .ref m12, .ref m13, .ref m14, .ref m15, .ref m16, .ref m17, .ref m18, .ref m19, .ref m20, .ref m21, .ref m22, .ref m23, .ref m24, .ref m25, .ref m26, .ref m27, .ref m28, .ref m29, .ref m30, .ref m31, .ref m32, .ref m33, .ref m34, .ref m35, .ref m36, .ref m37, .ref m38, .int 0, .int 0, .ref m41, .ref m42, .ref m43, .ref m44, .int 0, .int 0, .ref m47, .ref m48, .ref m49, .ref m50, .ref m51, .ref m52, .ref m53, .ref m54])), (m0, .inl (cB, 1620, .inl f_109))] H := hP
  have hD : va_D A [(m0_, .inr (12, [.ref m0, .ref m1, .int 0, .int 0, .int 0, .int (-1), .int 0, .int 0, .int 0, .int 0, .long 0, .ref m11, .ref m12, .ref m13, .ref m14, .ref m15, .ref m16, .ref m17, .ref m18, .ref m19, .ref m20, .ref m21, .ref m22, .ref m23, .ref m24, .ref m25, .ref m26, .ref m27, .ref m28, .ref m29, .ref m30, .ref m31, .ref m32, .ref m33, .ref m34, .ref m35, .ref m36, .ref m37, .ref m38, .int 0, .int 0, .ref m41, .ref m42, .ref m43, .ref m44, .int 0, .int 0, .ref m47, .ref m48, .ref m49, .ref m50, .ref m51, .ref m52, .ref m53, .ref m54])), (m0, .inl (cB, 1620, .inl f_109))] := hD
  refine lv_iinc (v := 12) (lv' := [(6, .int 12), (7, .int p2), (0, .ref m0_), (1, .int p0), (2, .int p1), (3, .int p2), (4, .int p3), (5, .int p4)]) hx hb d_Mo_feed_99 hl (k := 1) rfl (by decide +kernel) (by decide) rfl (fun ls hl => ?_)
  refine lv_goto (tgt := 18) hx hb d_Mo_feed_102 (by decide) ?_
  refine lv_iload hx hb d_Mo_feed_18 (lv_at hl 0 rfl) ?_
  refine lv_bipush (v := 20) hx hb d_Mo_feed_20 (by decide +kernel) ?_
  refine lv_icmp_ge (tgt := 105) hx hb d_Mo_feed_22 (by decide) (fun c_110 => absurd c_110 (by decide +kernel)) (fun c_110 => ?_)
  refine lv_iload hx hb d_Mo_feed_25 (lv_at hl 0 rfl) ?_
  refine lv_iconst (v := 4) hx hb d_Mo_feed_27 (by decide +kernel) ?_
  refine lv_icmp_ge (tgt := 35) hx hb d_Mo_feed_28 (by decide) (fun c_111 => ?_) (fun c_111 => absurd (by decide +kernel) c_111)
  refine lv_iload hx hb d_Mo_feed_35 (lv_at hl 0 rfl) ?_
  refine lv_bipush (v := 8) hx hb d_Mo_feed_37 (by decide +kernel) ?_
  refine lv_icmp_ge (tgt := 46) hx hb d_Mo_feed_39 (by decide) (fun c_112 => ?_) (fun c_112 => absurd (by decide +kernel) c_112)
  refine lv_iload hx hb d_Mo_feed_46 (lv_at hl 0 rfl) ?_
  refine lv_bipush (v := 12) hx hb d_Mo_feed_48 (by decide +kernel) ?_
  refine lv_icmp_ge (tgt := 57) hx hb d_Mo_feed_50 (by decide) (fun c_113 => ?_) (fun c_113 => absurd (by decide +kernel) c_113)
  refine lv_iload hx hb d_Mo_feed_57 (lv_at hl 0 rfl) ?_
  refine lv_bipush (v := 16) hx hb d_Mo_feed_59 (by decide +kernel) ?_
  refine lv_icmp_ge (tgt := 69) hx hb d_Mo_feed_61 (by decide) (fun c_114 => absurd c_114 (by decide +kernel)) (fun c_114 => ?_)
  refine lv_iload hx hb d_Mo_feed_64 (lv_at hl 6 rfl) ?_
  refine lv_goto (tgt := 71) hx hb d_Mo_feed_66 (by decide) ?_
  refine lv_istore (lv' := [(7, .int p3), (6, .int 12), (0, .ref m0_), (1, .int p0), (2, .int p1), (3, .int p2), (4, .int p3), (5, .int p4)]) hx hb d_Mo_feed_71 hl (by decide) rfl (fun ls hl => ?_)
  refine lv_aload_n hx hb d_Mo_feed_73 rfl (lv_at hl 2 rfl) ?_
  refine va_get (D := D) (ci := 12) (v := .ref m0) (C := R_Mo) (T := F_Mo) (N := 55) hx hb hts i_Mo hown hK.1 hP 0 rfl rfl 0 (by decide) (hts _ k_1018) (fun _ h9 => h9) rfl d_Mo_feed_74 ?_
  refine lv_aload_n hx hb d_Mo_feed_77 rfl (lv_at hl 2 rfl) ?_
  refine va_get (D := D) (ci := 12) (v := .int 0) (C := R_Mo) (T := F_Mo) (N := 55) hx hb hts i_Mo hown hK.1 hP 0 rfl rfl 2 (by decide) (hts _ k_1020) (fun _ h9 => h9) rfl d_Mo_feed_78 ?_
  refine lv_iload hx hb d_Mo_feed_81 (lv_at hl 1 rfl) ?_
  refine lv_iadd hx hb d_Mo_feed_83 ?_
  refine nz_ctopi (v := 12) (by decide +kernel) ?_
  refine lv_iload hx hb d_Mo_feed_84 (lv_at hl 0 rfl) ?_
  refine lv_bipush (v := 24) hx hb d_Mo_feed_86 (by decide +kernel) ?_
  refine lv_bipush (v := 8) hx hb d_Mo_feed_88 (by decide +kernel) ?_
  refine lv_iload hx hb d_Mo_feed_90 (lv_at hl 1 rfl) ?_
  refine lv_iconst (v := 3) hx hb d_Mo_feed_92 (by decide +kernel) ?_
  refine lv_iand hx hb d_Mo_feed_93 ?_
  refine nz_ctopi (v := 0) (by decide +kernel) ?_
  refine lv_imul hx hb d_Mo_feed_94 ?_
  refine nz_ctopi (v := 0) (by decide +kernel) ?_
  refine lv_isub hx hb d_Mo_feed_95 ?_
  refine nz_ctopi (v := 24) (by decide +kernel) ?_
  refine lv_ishr hx hb d_Mo_feed_96 ?_
  refine lv_topi (fun x_115 e_116 => ?_)
  refine lv_i2b (v := x_115.toInt8.toInt32) hx hb d_Mo_feed_97 rfl ?_
  refine lv_topi (fun x_118 e_119 => ?_)
  refine nz_bastE hx hb hK.1 hP hD hS 1 0 rfl rfl (nz_vin (by decide +kernel)) d_Mo_feed_98 (fun H locs f_120 f_120_e hP hD hS => ?_)
  have hP : va_P D nz_cl [(m0_, .inr (12, [.ref m0, .ref m1, .int 0, .int 0, .int 0, .int (-1), .int 0, .int 0, .int 0, .int 0, .long 0, .ref m11, .ref m12, .ref m13, .ref m14, .ref m15, .ref m16, .ref m17, .ref m18, .ref m19, .ref m20, .ref m21, .ref m22, .ref m23, .ref m24, .ref m25, .ref m26, .ref m27, .ref m28, .ref m29, .ref m30, .ref m31, .ref m32, .ref m33, .ref m34, .ref m35, .ref m36, .ref m37, .ref m38, .int 0, .int 0, .ref m41, .ref m42, .ref m43, .ref m44, .int 0, .int 0, .ref m47, .ref m48, .ref m49, .ref m50, .ref m51, .ref m52, .ref m53, .ref m54])), (m0, .inl (cB, 1620, .inl f_120))] H := hP
  have hD : va_D A [(m0_, .inr (12, [.ref m0, .ref m1, .int 0, .int 0, .int 0, .int (-1), .int 0, .int 0, .int 0, .int 0, .long 0, .ref m11, .ref m12, .ref m13, .ref m14, .ref m15, .ref m16, .ref m17, .ref m18, .ref m19, .ref m20, .ref m21, .ref m22, .ref m23, .ref m24, .ref m25, .ref m26, .ref m27, .ref m28, .ref m29, .ref m30, .ref m31, .ref m32, .ref m33, .ref m34, .ref m35, .ref m36, .ref m37, .ref m38, .int 0, .int 0, .ref m41, .ref m42, .ref m43, .ref m44, .int 0, .int 0, .ref m47, .ref m48, .ref m49, .ref m50, .ref m51, .ref m52, .ref m53, .ref m54])), (m0, .inl (cB, 1620, .inl f_120))] := hD
  refine lv_iinc (v := 13) (lv' := [(6, .int 13), (7, .int p3), (0, .ref m0_), (1, .int p0), (2, .int p1), (3, .int p2), (4, .int p3), (5, .int p4)]) hx hb d_Mo_feed_99 hl (k := 1) rfl (by decide +kernel) (by decide) rfl (fun ls hl => ?_)
  refine lv_goto (tgt := 18) hx hb d_Mo_feed_102 (by decide) ?_
  refine lv_iload hx hb d_Mo_feed_18 (lv_at hl 0 rfl) ?_
  refine lv_bipush (v := 20) hx hb d_Mo_feed_20 (by decide +kernel) ?_
  refine lv_icmp_ge (tgt := 105) hx hb d_Mo_feed_22 (by decide) (fun c_121 => absurd c_121 (by decide +kernel)) (fun c_121 => ?_)
  refine lv_iload hx hb d_Mo_feed_25 (lv_at hl 0 rfl) ?_
  refine lv_iconst (v := 4) hx hb d_Mo_feed_27 (by decide +kernel) ?_
  refine lv_icmp_ge (tgt := 35) hx hb d_Mo_feed_28 (by decide) (fun c_122 => ?_) (fun c_122 => absurd (by decide +kernel) c_122)
  refine lv_iload hx hb d_Mo_feed_35 (lv_at hl 0 rfl) ?_
  refine lv_bipush (v := 8) hx hb d_Mo_feed_37 (by decide +kernel) ?_
  refine lv_icmp_ge (tgt := 46) hx hb d_Mo_feed_39 (by decide) (fun c_123 => ?_) (fun c_123 => absurd (by decide +kernel) c_123)
  refine lv_iload hx hb d_Mo_feed_46 (lv_at hl 0 rfl) ?_
  refine lv_bipush (v := 12) hx hb d_Mo_feed_48 (by decide +kernel) ?_
  refine lv_icmp_ge (tgt := 57) hx hb d_Mo_feed_50 (by decide) (fun c_124 => ?_) (fun c_124 => absurd (by decide +kernel) c_124)
  refine lv_iload hx hb d_Mo_feed_57 (lv_at hl 0 rfl) ?_
  refine lv_bipush (v := 16) hx hb d_Mo_feed_59 (by decide +kernel) ?_
  refine lv_icmp_ge (tgt := 69) hx hb d_Mo_feed_61 (by decide) (fun c_125 => absurd c_125 (by decide +kernel)) (fun c_125 => ?_)
  refine lv_iload hx hb d_Mo_feed_64 (lv_at hl 6 rfl) ?_
  refine lv_goto (tgt := 71) hx hb d_Mo_feed_66 (by decide) ?_
  refine lv_istore (lv' := [(7, .int p3), (6, .int 13), (0, .ref m0_), (1, .int p0), (2, .int p1), (3, .int p2), (4, .int p3), (5, .int p4)]) hx hb d_Mo_feed_71 hl (by decide) rfl (fun ls hl => ?_)
  refine lv_aload_n hx hb d_Mo_feed_73 rfl (lv_at hl 2 rfl) ?_
  refine va_get (D := D) (ci := 12) (v := .ref m0) (C := R_Mo) (T := F_Mo) (N := 55) hx hb hts i_Mo hown hK.1 hP 0 rfl rfl 0 (by decide) (hts _ k_1018) (fun _ h9 => h9) rfl d_Mo_feed_74 ?_
  refine lv_aload_n hx hb d_Mo_feed_77 rfl (lv_at hl 2 rfl) ?_
  refine va_get (D := D) (ci := 12) (v := .int 0) (C := R_Mo) (T := F_Mo) (N := 55) hx hb hts i_Mo hown hK.1 hP 0 rfl rfl 2 (by decide) (hts _ k_1020) (fun _ h9 => h9) rfl d_Mo_feed_78 ?_
  refine lv_iload hx hb d_Mo_feed_81 (lv_at hl 1 rfl) ?_
  refine lv_iadd hx hb d_Mo_feed_83 ?_
  refine nz_ctopi (v := 13) (by decide +kernel) ?_
  refine lv_iload hx hb d_Mo_feed_84 (lv_at hl 0 rfl) ?_
  refine lv_bipush (v := 24) hx hb d_Mo_feed_86 (by decide +kernel) ?_
  refine lv_bipush (v := 8) hx hb d_Mo_feed_88 (by decide +kernel) ?_
  refine lv_iload hx hb d_Mo_feed_90 (lv_at hl 1 rfl) ?_
  refine lv_iconst (v := 3) hx hb d_Mo_feed_92 (by decide +kernel) ?_
  refine lv_iand hx hb d_Mo_feed_93 ?_
  refine nz_ctopi (v := 1) (by decide +kernel) ?_
  refine lv_imul hx hb d_Mo_feed_94 ?_
  refine nz_ctopi (v := 8) (by decide +kernel) ?_
  refine lv_isub hx hb d_Mo_feed_95 ?_
  refine nz_ctopi (v := 16) (by decide +kernel) ?_
  refine lv_ishr hx hb d_Mo_feed_96 ?_
  refine lv_topi (fun x_126 e_127 => ?_)
  refine lv_i2b (v := x_126.toInt8.toInt32) hx hb d_Mo_feed_97 rfl ?_
  refine lv_topi (fun x_129 e_130 => ?_)
  refine nz_bastE hx hb hK.1 hP hD hS 1 0 rfl rfl (nz_vin (by decide +kernel)) d_Mo_feed_98 (fun H locs f_131 f_131_e hP hD hS => ?_)
  have hP : va_P D nz_cl [(m0_, .inr (12, [.ref m0, .ref m1, .int 0, .int 0, .int 0, .int (-1), .int 0, .int 0, .int 0, .int 0, .long 0, .ref m11, .ref m12, .ref m13, .ref m14, .ref m15, .ref m16, .ref m17, .ref m18, .ref m19, .ref m20, .ref m21, .ref m22, .ref m23, .ref m24, .ref m25, .ref m26, .ref m27, .ref m28, .ref m29, .ref m30, .ref m31, .ref m32, .ref m33, .ref m34, .ref m35, .ref m36, .ref m37, .ref m38, .int 0, .int 0, .ref m41, .ref m42, .ref m43, .ref m44, .int 0, .int 0, .ref m47, .ref m48, .ref m49, .ref m50, .ref m51, .ref m52, .ref m53, .ref m54])), (m0, .inl (cB, 1620, .inl f_131))] H := hP
  have hD : va_D A [(m0_, .inr (12, [.ref m0, .ref m1, .int 0, .int 0, .int 0, .int (-1), .int 0, .int 0, .int 0, .int 0, .long 0, .ref m11, .ref m12, .ref m13, .ref m14, .ref m15, .ref m16, .ref m17, .ref m18, .ref m19, .ref m20, .ref m21, .ref m22, .ref m23, .ref m24, .ref m25, .ref m26, .ref m27, .ref m28, .ref m29, .ref m30, .ref m31, .ref m32, .ref m33, .ref m34, .ref m35, .ref m36, .ref m37, .ref m38, .int 0, .int 0, .ref m41, .ref m42, .ref m43, .ref m44, .int 0, .int 0, .ref m47, .ref m48, .ref m49, .ref m50, .ref m51, .ref m52, .ref m53, .ref m54])), (m0, .inl (cB, 1620, .inl f_131))] := hD
  refine lv_iinc (v := 14) (lv' := [(6, .int 14), (7, .int p3), (0, .ref m0_), (1, .int p0), (2, .int p1), (3, .int p2), (4, .int p3), (5, .int p4)]) hx hb d_Mo_feed_99 hl (k := 1) rfl (by decide +kernel) (by decide) rfl (fun ls hl => ?_)
  refine lv_goto (tgt := 18) hx hb d_Mo_feed_102 (by decide) ?_
  refine lv_iload hx hb d_Mo_feed_18 (lv_at hl 0 rfl) ?_
  refine lv_bipush (v := 20) hx hb d_Mo_feed_20 (by decide +kernel) ?_
  refine lv_icmp_ge (tgt := 105) hx hb d_Mo_feed_22 (by decide) (fun c_132 => absurd c_132 (by decide +kernel)) (fun c_132 => ?_)
  refine lv_iload hx hb d_Mo_feed_25 (lv_at hl 0 rfl) ?_
  refine lv_iconst (v := 4) hx hb d_Mo_feed_27 (by decide +kernel) ?_
  refine lv_icmp_ge (tgt := 35) hx hb d_Mo_feed_28 (by decide) (fun c_133 => ?_) (fun c_133 => absurd (by decide +kernel) c_133)
  refine lv_iload hx hb d_Mo_feed_35 (lv_at hl 0 rfl) ?_
  refine lv_bipush (v := 8) hx hb d_Mo_feed_37 (by decide +kernel) ?_
  refine lv_icmp_ge (tgt := 46) hx hb d_Mo_feed_39 (by decide) (fun c_134 => ?_) (fun c_134 => absurd (by decide +kernel) c_134)
  refine lv_iload hx hb d_Mo_feed_46 (lv_at hl 0 rfl) ?_
  refine lv_bipush (v := 12) hx hb d_Mo_feed_48 (by decide +kernel) ?_
  refine lv_icmp_ge (tgt := 57) hx hb d_Mo_feed_50 (by decide) (fun c_135 => ?_) (fun c_135 => absurd (by decide +kernel) c_135)
  refine lv_iload hx hb d_Mo_feed_57 (lv_at hl 0 rfl) ?_
  refine lv_bipush (v := 16) hx hb d_Mo_feed_59 (by decide +kernel) ?_
  refine lv_icmp_ge (tgt := 69) hx hb d_Mo_feed_61 (by decide) (fun c_136 => absurd c_136 (by decide +kernel)) (fun c_136 => ?_)
  refine lv_iload hx hb d_Mo_feed_64 (lv_at hl 6 rfl) ?_
  refine lv_goto (tgt := 71) hx hb d_Mo_feed_66 (by decide) ?_
  refine lv_istore (lv' := [(7, .int p3), (6, .int 14), (0, .ref m0_), (1, .int p0), (2, .int p1), (3, .int p2), (4, .int p3), (5, .int p4)]) hx hb d_Mo_feed_71 hl (by decide) rfl (fun ls hl => ?_)
  refine lv_aload_n hx hb d_Mo_feed_73 rfl (lv_at hl 2 rfl) ?_
  refine va_get (D := D) (ci := 12) (v := .ref m0) (C := R_Mo) (T := F_Mo) (N := 55) hx hb hts i_Mo hown hK.1 hP 0 rfl rfl 0 (by decide) (hts _ k_1018) (fun _ h9 => h9) rfl d_Mo_feed_74 ?_
  refine lv_aload_n hx hb d_Mo_feed_77 rfl (lv_at hl 2 rfl) ?_
  refine va_get (D := D) (ci := 12) (v := .int 0) (C := R_Mo) (T := F_Mo) (N := 55) hx hb hts i_Mo hown hK.1 hP 0 rfl rfl 2 (by decide) (hts _ k_1020) (fun _ h9 => h9) rfl d_Mo_feed_78 ?_
  refine lv_iload hx hb d_Mo_feed_81 (lv_at hl 1 rfl) ?_
  refine lv_iadd hx hb d_Mo_feed_83 ?_
  refine nz_ctopi (v := 14) (by decide +kernel) ?_
  refine lv_iload hx hb d_Mo_feed_84 (lv_at hl 0 rfl) ?_
  refine lv_bipush (v := 24) hx hb d_Mo_feed_86 (by decide +kernel) ?_
  refine lv_bipush (v := 8) hx hb d_Mo_feed_88 (by decide +kernel) ?_
  refine lv_iload hx hb d_Mo_feed_90 (lv_at hl 1 rfl) ?_
  refine lv_iconst (v := 3) hx hb d_Mo_feed_92 (by decide +kernel) ?_
  refine lv_iand hx hb d_Mo_feed_93 ?_
  refine nz_ctopi (v := 2) (by decide +kernel) ?_
  refine lv_imul hx hb d_Mo_feed_94 ?_
  refine nz_ctopi (v := 16) (by decide +kernel) ?_
  refine lv_isub hx hb d_Mo_feed_95 ?_
  refine nz_ctopi (v := 8) (by decide +kernel) ?_
  refine lv_ishr hx hb d_Mo_feed_96 ?_
  refine lv_topi (fun x_137 e_138 => ?_)
  refine lv_i2b (v := x_137.toInt8.toInt32) hx hb d_Mo_feed_97 rfl ?_
  refine lv_topi (fun x_140 e_141 => ?_)
  refine nz_bastE hx hb hK.1 hP hD hS 1 0 rfl rfl (nz_vin (by decide +kernel)) d_Mo_feed_98 (fun H locs f_142 f_142_e hP hD hS => ?_)
  have hP : va_P D nz_cl [(m0_, .inr (12, [.ref m0, .ref m1, .int 0, .int 0, .int 0, .int (-1), .int 0, .int 0, .int 0, .int 0, .long 0, .ref m11, .ref m12, .ref m13, .ref m14, .ref m15, .ref m16, .ref m17, .ref m18, .ref m19, .ref m20, .ref m21, .ref m22, .ref m23, .ref m24, .ref m25, .ref m26, .ref m27, .ref m28, .ref m29, .ref m30, .ref m31, .ref m32, .ref m33, .ref m34, .ref m35, .ref m36, .ref m37, .ref m38, .int 0, .int 0, .ref m41, .ref m42, .ref m43, .ref m44, .int 0, .int 0, .ref m47, .ref m48, .ref m49, .ref m50, .ref m51, .ref m52, .ref m53, .ref m54])), (m0, .inl (cB, 1620, .inl f_142))] H := hP
  have hD : va_D A [(m0_, .inr (12, [.ref m0, .ref m1, .int 0, .int 0, .int 0, .int (-1), .int 0, .int 0, .int 0, .int 0, .long 0, .ref m11, .ref m12, .ref m13, .ref m14, .ref m15, .ref m16, .ref m17, .ref m18, .ref m19, .ref m20, .ref m21, .ref m22, .ref m23, .ref m24, .ref m25, .ref m26, .ref m27, .ref m28, .ref m29, .ref m30, .ref m31, .ref m32, .ref m33, .ref m34, .ref m35, .ref m36, .ref m37, .ref m38, .int 0, .int 0, .ref m41, .ref m42, .ref m43, .ref m44, .int 0, .int 0, .ref m47, .ref m48, .ref m49, .ref m50, .ref m51, .ref m52, .ref m53, .ref m54])), (m0, .inl (cB, 1620, .inl f_142))] := hD
  refine lv_iinc (v := 15) (lv' := [(6, .int 15), (7, .int p3), (0, .ref m0_), (1, .int p0), (2, .int p1), (3, .int p2), (4, .int p3), (5, .int p4)]) hx hb d_Mo_feed_99 hl (k := 1) rfl (by decide +kernel) (by decide) rfl (fun ls hl => ?_)
  refine lv_goto (tgt := 18) hx hb d_Mo_feed_102 (by decide) ?_
  refine lv_iload hx hb d_Mo_feed_18 (lv_at hl 0 rfl) ?_
  refine lv_bipush (v := 20) hx hb d_Mo_feed_20 (by decide +kernel) ?_
  refine lv_icmp_ge (tgt := 105) hx hb d_Mo_feed_22 (by decide) (fun c_143 => absurd c_143 (by decide +kernel)) (fun c_143 => ?_)
  refine lv_iload hx hb d_Mo_feed_25 (lv_at hl 0 rfl) ?_
  refine lv_iconst (v := 4) hx hb d_Mo_feed_27 (by decide +kernel) ?_
  refine lv_icmp_ge (tgt := 35) hx hb d_Mo_feed_28 (by decide) (fun c_144 => ?_) (fun c_144 => absurd (by decide +kernel) c_144)
  refine lv_iload hx hb d_Mo_feed_35 (lv_at hl 0 rfl) ?_
  refine lv_bipush (v := 8) hx hb d_Mo_feed_37 (by decide +kernel) ?_
  refine lv_icmp_ge (tgt := 46) hx hb d_Mo_feed_39 (by decide) (fun c_145 => ?_) (fun c_145 => absurd (by decide +kernel) c_145)
  refine lv_iload hx hb d_Mo_feed_46 (lv_at hl 0 rfl) ?_
  refine lv_bipush (v := 12) hx hb d_Mo_feed_48 (by decide +kernel) ?_
  refine lv_icmp_ge (tgt := 57) hx hb d_Mo_feed_50 (by decide) (fun c_146 => ?_) (fun c_146 => absurd (by decide +kernel) c_146)
  refine lv_iload hx hb d_Mo_feed_57 (lv_at hl 0 rfl) ?_
  refine lv_bipush (v := 16) hx hb d_Mo_feed_59 (by decide +kernel) ?_
  refine lv_icmp_ge (tgt := 69) hx hb d_Mo_feed_61 (by decide) (fun c_147 => absurd c_147 (by decide +kernel)) (fun c_147 => ?_)
  refine lv_iload hx hb d_Mo_feed_64 (lv_at hl 6 rfl) ?_
  refine lv_goto (tgt := 71) hx hb d_Mo_feed_66 (by decide) ?_
  refine lv_istore (lv' := [(7, .int p3), (6, .int 15), (0, .ref m0_), (1, .int p0), (2, .int p1), (3, .int p2), (4, .int p3), (5, .int p4)]) hx hb d_Mo_feed_71 hl (by decide) rfl (fun ls hl => ?_)
  refine lv_aload_n hx hb d_Mo_feed_73 rfl (lv_at hl 2 rfl) ?_
  refine va_get (D := D) (ci := 12) (v := .ref m0) (C := R_Mo) (T := F_Mo) (N := 55) hx hb hts i_Mo hown hK.1 hP 0 rfl rfl 0 (by decide) (hts _ k_1018) (fun _ h9 => h9) rfl d_Mo_feed_74 ?_
  refine lv_aload_n hx hb d_Mo_feed_77 rfl (lv_at hl 2 rfl) ?_
  refine va_get (D := D) (ci := 12) (v := .int 0) (C := R_Mo) (T := F_Mo) (N := 55) hx hb hts i_Mo hown hK.1 hP 0 rfl rfl 2 (by decide) (hts _ k_1020) (fun _ h9 => h9) rfl d_Mo_feed_78 ?_
  refine lv_iload hx hb d_Mo_feed_81 (lv_at hl 1 rfl) ?_
  refine lv_iadd hx hb d_Mo_feed_83 ?_
  refine nz_ctopi (v := 15) (by decide +kernel) ?_
  refine lv_iload hx hb d_Mo_feed_84 (lv_at hl 0 rfl) ?_
  refine lv_bipush (v := 24) hx hb d_Mo_feed_86 (by decide +kernel) ?_
  refine lv_bipush (v := 8) hx hb d_Mo_feed_88 (by decide +kernel) ?_
  refine lv_iload hx hb d_Mo_feed_90 (lv_at hl 1 rfl) ?_
  refine lv_iconst (v := 3) hx hb d_Mo_feed_92 (by decide +kernel) ?_
  refine lv_iand hx hb d_Mo_feed_93 ?_
  refine nz_ctopi (v := 3) (by decide +kernel) ?_
  refine lv_imul hx hb d_Mo_feed_94 ?_
  refine nz_ctopi (v := 24) (by decide +kernel) ?_
  refine lv_isub hx hb d_Mo_feed_95 ?_
  refine nz_ctopi (v := 0) (by decide +kernel) ?_
  refine lv_ishr hx hb d_Mo_feed_96 ?_
  refine lv_topi (fun x_148 e_149 => ?_)
  refine lv_i2b (v := x_148.toInt8.toInt32) hx hb d_Mo_feed_97 rfl ?_
  refine lv_topi (fun x_151 e_152 => ?_)
  refine nz_bastE hx hb hK.1 hP hD hS 1 0 rfl rfl (nz_vin (by decide +kernel)) d_Mo_feed_98 (fun H locs f_153 f_153_e hP hD hS => ?_)
  have hP : va_P D nz_cl [(m0_, .inr (12, [.ref m0, .ref m1, .int 0, .int 0, .int 0, .int (-1), .int 0, .int 0, .int 0, .int 0, .long 0, .ref m11, .ref m12, .ref m13, .ref m14, .ref m15, .ref m16, .ref m17, .ref m18, .ref m19, .ref m20, .ref m21, .ref m22, .ref m23, .ref m24, .ref m25, .ref m26, .ref m27, .ref m28, .ref m29, .ref m30, .ref m31, .ref m32, .ref m33, .ref m34, .ref m35, .ref m36, .ref m37, .ref m38, .int 0, .int 0, .ref m41, .ref m42, .ref m43, .ref m44, .int 0, .int 0, .ref m47, .ref m48, .ref m49, .ref m50, .ref m51, .ref m52, .ref m53, .ref m54])), (m0, .inl (cB, 1620, .inl f_153))] H := hP
  have hD : va_D A [(m0_, .inr (12, [.ref m0, .ref m1, .int 0, .int 0, .int 0, .int (-1), .int 0, .int 0, .int 0, .int 0, .long 0, .ref m11, .ref m12, .ref m13, .ref m14, .ref m15, .ref m16, .ref m17, .ref m18, .ref m19, .ref m20, .ref m21, .ref m22, .ref m23, .ref m24, .ref m25, .ref m26, .ref m27, .ref m28, .ref m29, .ref m30, .ref m31, .ref m32, .ref m33, .ref m34, .ref m35, .ref m36, .ref m37, .ref m38, .int 0, .int 0, .ref m41, .ref m42, .ref m43, .ref m44, .int 0, .int 0, .ref m47, .ref m48, .ref m49, .ref m50, .ref m51, .ref m52, .ref m53, .ref m54])), (m0, .inl (cB, 1620, .inl f_153))] := hD
  refine lv_iinc (v := 16) (lv' := [(6, .int 16), (7, .int p3), (0, .ref m0_), (1, .int p0), (2, .int p1), (3, .int p2), (4, .int p3), (5, .int p4)]) hx hb d_Mo_feed_99 hl (k := 1) rfl (by decide +kernel) (by decide) rfl (fun ls hl => ?_)
  refine lv_goto (tgt := 18) hx hb d_Mo_feed_102 (by decide) ?_
  refine lv_iload hx hb d_Mo_feed_18 (lv_at hl 0 rfl) ?_
  refine lv_bipush (v := 20) hx hb d_Mo_feed_20 (by decide +kernel) ?_
  refine lv_icmp_ge (tgt := 105) hx hb d_Mo_feed_22 (by decide) (fun c_154 => absurd c_154 (by decide +kernel)) (fun c_154 => ?_)
  refine lv_iload hx hb d_Mo_feed_25 (lv_at hl 0 rfl) ?_
  refine lv_iconst (v := 4) hx hb d_Mo_feed_27 (by decide +kernel) ?_
  refine lv_icmp_ge (tgt := 35) hx hb d_Mo_feed_28 (by decide) (fun c_155 => ?_) (fun c_155 => absurd (by decide +kernel) c_155)
  refine lv_iload hx hb d_Mo_feed_35 (lv_at hl 0 rfl) ?_
  refine lv_bipush (v := 8) hx hb d_Mo_feed_37 (by decide +kernel) ?_
  refine lv_icmp_ge (tgt := 46) hx hb d_Mo_feed_39 (by decide) (fun c_156 => ?_) (fun c_156 => absurd (by decide +kernel) c_156)
  refine lv_iload hx hb d_Mo_feed_46 (lv_at hl 0 rfl) ?_
  refine lv_bipush (v := 12) hx hb d_Mo_feed_48 (by decide +kernel) ?_
  refine lv_icmp_ge (tgt := 57) hx hb d_Mo_feed_50 (by decide) (fun c_157 => ?_) (fun c_157 => absurd (by decide +kernel) c_157)
  refine lv_iload hx hb d_Mo_feed_57 (lv_at hl 0 rfl) ?_
  refine lv_bipush (v := 16) hx hb d_Mo_feed_59 (by decide +kernel) ?_
  refine lv_icmp_ge (tgt := 69) hx hb d_Mo_feed_61 (by decide) (fun c_158 => ?_) (fun c_158 => absurd (by decide +kernel) c_158)
  refine lv_iload hx hb d_Mo_feed_69 (lv_at hl 7 rfl) ?_
  refine lv_istore (lv' := [(7, .int p4), (6, .int 16), (0, .ref m0_), (1, .int p0), (2, .int p1), (3, .int p2), (4, .int p3), (5, .int p4)]) hx hb d_Mo_feed_71 hl (by decide) rfl (fun ls hl => ?_)
  refine lv_aload_n hx hb d_Mo_feed_73 rfl (lv_at hl 2 rfl) ?_
  refine va_get (D := D) (ci := 12) (v := .ref m0) (C := R_Mo) (T := F_Mo) (N := 55) hx hb hts i_Mo hown hK.1 hP 0 rfl rfl 0 (by decide) (hts _ k_1018) (fun _ h9 => h9) rfl d_Mo_feed_74 ?_
  refine lv_aload_n hx hb d_Mo_feed_77 rfl (lv_at hl 2 rfl) ?_
  refine va_get (D := D) (ci := 12) (v := .int 0) (C := R_Mo) (T := F_Mo) (N := 55) hx hb hts i_Mo hown hK.1 hP 0 rfl rfl 2 (by decide) (hts _ k_1020) (fun _ h9 => h9) rfl d_Mo_feed_78 ?_
  refine lv_iload hx hb d_Mo_feed_81 (lv_at hl 1 rfl) ?_
  refine lv_iadd hx hb d_Mo_feed_83 ?_
  refine nz_ctopi (v := 16) (by decide +kernel) ?_
  refine lv_iload hx hb d_Mo_feed_84 (lv_at hl 0 rfl) ?_
  refine lv_bipush (v := 24) hx hb d_Mo_feed_86 (by decide +kernel) ?_
  refine lv_bipush (v := 8) hx hb d_Mo_feed_88 (by decide +kernel) ?_
  refine lv_iload hx hb d_Mo_feed_90 (lv_at hl 1 rfl) ?_
  refine lv_iconst (v := 3) hx hb d_Mo_feed_92 (by decide +kernel) ?_
  refine lv_iand hx hb d_Mo_feed_93 ?_
  refine nz_ctopi (v := 0) (by decide +kernel) ?_
  refine lv_imul hx hb d_Mo_feed_94 ?_
  refine nz_ctopi (v := 0) (by decide +kernel) ?_
  refine lv_isub hx hb d_Mo_feed_95 ?_
  refine nz_ctopi (v := 24) (by decide +kernel) ?_
  refine lv_ishr hx hb d_Mo_feed_96 ?_
  refine lv_topi (fun x_159 e_160 => ?_)
  refine lv_i2b (v := x_159.toInt8.toInt32) hx hb d_Mo_feed_97 rfl ?_
  refine lv_topi (fun x_162 e_163 => ?_)
  refine nz_bastE hx hb hK.1 hP hD hS 1 0 rfl rfl (nz_vin (by decide +kernel)) d_Mo_feed_98 (fun H locs f_164 f_164_e hP hD hS => ?_)
  have hP : va_P D nz_cl [(m0_, .inr (12, [.ref m0, .ref m1, .int 0, .int 0, .int 0, .int (-1), .int 0, .int 0, .int 0, .int 0, .long 0, .ref m11, .ref m12, .ref m13, .ref m14, .ref m15, .ref m16, .ref m17, .ref m18, .ref m19, .ref m20, .ref m21, .ref m22, .ref m23, .ref m24, .ref m25, .ref m26, .ref m27, .ref m28, .ref m29, .ref m30, .ref m31, .ref m32, .ref m33, .ref m34, .ref m35, .ref m36, .ref m37, .ref m38, .int 0, .int 0, .ref m41, .ref m42, .ref m43, .ref m44, .int 0, .int 0, .ref m47, .ref m48, .ref m49, .ref m50, .ref m51, .ref m52, .ref m53, .ref m54])), (m0, .inl (cB, 1620, .inl f_164))] H := hP
  have hD : va_D A [(m0_, .inr (12, [.ref m0, .ref m1, .int 0, .int 0, .int 0, .int (-1), .int 0, .int 0, .int 0, .int 0, .long 0, .ref m11, .ref m12, .ref m13, .ref m14, .ref m15, .ref m16, .ref m17, .ref m18, .ref m19, .ref m20, .ref m21, .ref m22, .ref m23, .ref m24, .ref m25, .ref m26, .ref m27, .ref m28, .ref m29, .ref m30, .ref m31, .ref m32, .ref m33, .ref m34, .ref m35, .ref m36, .ref m37, .ref m38, .int 0, .int 0, .ref m41, .ref m42, .ref m43, .ref m44, .int 0, .int 0, .ref m47, .ref m48, .ref m49, .ref m50, .ref m51, .ref m52, .ref m53, .ref m54])), (m0, .inl (cB, 1620, .inl f_164))] := hD
  refine lv_iinc (v := 17) (lv' := [(6, .int 17), (7, .int p4), (0, .ref m0_), (1, .int p0), (2, .int p1), (3, .int p2), (4, .int p3), (5, .int p4)]) hx hb d_Mo_feed_99 hl (k := 1) rfl (by decide +kernel) (by decide) rfl (fun ls hl => ?_)
  refine lv_goto (tgt := 18) hx hb d_Mo_feed_102 (by decide) ?_
  refine lv_iload hx hb d_Mo_feed_18 (lv_at hl 0 rfl) ?_
  refine lv_bipush (v := 20) hx hb d_Mo_feed_20 (by decide +kernel) ?_
  refine lv_icmp_ge (tgt := 105) hx hb d_Mo_feed_22 (by decide) (fun c_165 => absurd c_165 (by decide +kernel)) (fun c_165 => ?_)
  refine lv_iload hx hb d_Mo_feed_25 (lv_at hl 0 rfl) ?_
  refine lv_iconst (v := 4) hx hb d_Mo_feed_27 (by decide +kernel) ?_
  refine lv_icmp_ge (tgt := 35) hx hb d_Mo_feed_28 (by decide) (fun c_166 => ?_) (fun c_166 => absurd (by decide +kernel) c_166)
  refine lv_iload hx hb d_Mo_feed_35 (lv_at hl 0 rfl) ?_
  refine lv_bipush (v := 8) hx hb d_Mo_feed_37 (by decide +kernel) ?_
  refine lv_icmp_ge (tgt := 46) hx hb d_Mo_feed_39 (by decide) (fun c_167 => ?_) (fun c_167 => absurd (by decide +kernel) c_167)
  refine lv_iload hx hb d_Mo_feed_46 (lv_at hl 0 rfl) ?_
  refine lv_bipush (v := 12) hx hb d_Mo_feed_48 (by decide +kernel) ?_
  refine lv_icmp_ge (tgt := 57) hx hb d_Mo_feed_50 (by decide) (fun c_168 => ?_) (fun c_168 => absurd (by decide +kernel) c_168)
  refine lv_iload hx hb d_Mo_feed_57 (lv_at hl 0 rfl) ?_
  refine lv_bipush (v := 16) hx hb d_Mo_feed_59 (by decide +kernel) ?_
  refine lv_icmp_ge (tgt := 69) hx hb d_Mo_feed_61 (by decide) (fun c_169 => ?_) (fun c_169 => absurd (by decide +kernel) c_169)
  refine lv_iload hx hb d_Mo_feed_69 (lv_at hl 7 rfl) ?_
  refine lv_istore (lv' := [(7, .int p4), (6, .int 17), (0, .ref m0_), (1, .int p0), (2, .int p1), (3, .int p2), (4, .int p3), (5, .int p4)]) hx hb d_Mo_feed_71 hl (by decide) rfl (fun ls hl => ?_)
  refine lv_aload_n hx hb d_Mo_feed_73 rfl (lv_at hl 2 rfl) ?_
  refine va_get (D := D) (ci := 12) (v := .ref m0) (C := R_Mo) (T := F_Mo) (N := 55) hx hb hts i_Mo hown hK.1 hP 0 rfl rfl 0 (by decide) (hts _ k_1018) (fun _ h9 => h9) rfl d_Mo_feed_74 ?_
  refine lv_aload_n hx hb d_Mo_feed_77 rfl (lv_at hl 2 rfl) ?_
  refine va_get (D := D) (ci := 12) (v := .int 0) (C := R_Mo) (T := F_Mo) (N := 55) hx hb hts i_Mo hown hK.1 hP 0 rfl rfl 2 (by decide) (hts _ k_1020) (fun _ h9 => h9) rfl d_Mo_feed_78 ?_
  refine lv_iload hx hb d_Mo_feed_81 (lv_at hl 1 rfl) ?_
  refine lv_iadd hx hb d_Mo_feed_83 ?_
  refine nz_ctopi (v := 17) (by decide +kernel) ?_
  refine lv_iload hx hb d_Mo_feed_84 (lv_at hl 0 rfl) ?_
  refine lv_bipush (v := 24) hx hb d_Mo_feed_86 (by decide +kernel) ?_
  refine lv_bipush (v := 8) hx hb d_Mo_feed_88 (by decide +kernel) ?_
  refine lv_iload hx hb d_Mo_feed_90 (lv_at hl 1 rfl) ?_
  refine lv_iconst (v := 3) hx hb d_Mo_feed_92 (by decide +kernel) ?_
  refine lv_iand hx hb d_Mo_feed_93 ?_
  refine nz_ctopi (v := 1) (by decide +kernel) ?_
  refine lv_imul hx hb d_Mo_feed_94 ?_
  refine nz_ctopi (v := 8) (by decide +kernel) ?_
  refine lv_isub hx hb d_Mo_feed_95 ?_
  refine nz_ctopi (v := 16) (by decide +kernel) ?_
  refine lv_ishr hx hb d_Mo_feed_96 ?_
  refine lv_topi (fun x_170 e_171 => ?_)
  refine lv_i2b (v := x_170.toInt8.toInt32) hx hb d_Mo_feed_97 rfl ?_
  refine lv_topi (fun x_173 e_174 => ?_)
  refine nz_bastE hx hb hK.1 hP hD hS 1 0 rfl rfl (nz_vin (by decide +kernel)) d_Mo_feed_98 (fun H locs f_175 f_175_e hP hD hS => ?_)
  have hP : va_P D nz_cl [(m0_, .inr (12, [.ref m0, .ref m1, .int 0, .int 0, .int 0, .int (-1), .int 0, .int 0, .int 0, .int 0, .long 0, .ref m11, .ref m12, .ref m13, .ref m14, .ref m15, .ref m16, .ref m17, .ref m18, .ref m19, .ref m20, .ref m21, .ref m22, .ref m23, .ref m24, .ref m25, .ref m26, .ref m27, .ref m28, .ref m29, .ref m30, .ref m31, .ref m32, .ref m33, .ref m34, .ref m35, .ref m36, .ref m37, .ref m38, .int 0, .int 0, .ref m41, .ref m42, .ref m43, .ref m44, .int 0, .int 0, .ref m47, .ref m48, .ref m49, .ref m50, .ref m51, .ref m52, .ref m53, .ref m54])), (m0, .inl (cB, 1620, .inl f_175))] H := hP
  have hD : va_D A [(m0_, .inr (12, [.ref m0, .ref m1, .int 0, .int 0, .int 0, .int (-1), .int 0, .int 0, .int 0, .int 0, .long 0, .ref m11, .ref m12, .ref m13, .ref m14, .ref m15, .ref m16, .ref m17, .ref m18, .ref m19, .ref m20, .ref m21, .ref m22, .ref m23, .ref m24, .ref m25, .ref m26, .ref m27, .ref m28, .ref m29, .ref m30, .ref m31, .ref m32, .ref m33, .ref m34, .ref m35, .ref m36, .ref m37, .ref m38, .int 0, .int 0, .ref m41, .ref m42, .ref m43, .ref m44, .int 0, .int 0, .ref m47, .ref m48, .ref m49, .ref m50, .ref m51, .ref m52, .ref m53, .ref m54])), (m0, .inl (cB, 1620, .inl f_175))] := hD
  refine lv_iinc (v := 18) (lv' := [(6, .int 18), (7, .int p4), (0, .ref m0_), (1, .int p0), (2, .int p1), (3, .int p2), (4, .int p3), (5, .int p4)]) hx hb d_Mo_feed_99 hl (k := 1) rfl (by decide +kernel) (by decide) rfl (fun ls hl => ?_)
  refine lv_goto (tgt := 18) hx hb d_Mo_feed_102 (by decide) ?_
  refine lv_iload hx hb d_Mo_feed_18 (lv_at hl 0 rfl) ?_
  refine lv_bipush (v := 20) hx hb d_Mo_feed_20 (by decide +kernel) ?_
  refine lv_icmp_ge (tgt := 105) hx hb d_Mo_feed_22 (by decide) (fun c_176 => absurd c_176 (by decide +kernel)) (fun c_176 => ?_)
  refine lv_iload hx hb d_Mo_feed_25 (lv_at hl 0 rfl) ?_
  refine lv_iconst (v := 4) hx hb d_Mo_feed_27 (by decide +kernel) ?_
  refine lv_icmp_ge (tgt := 35) hx hb d_Mo_feed_28 (by decide) (fun c_177 => ?_) (fun c_177 => absurd (by decide +kernel) c_177)
  refine lv_iload hx hb d_Mo_feed_35 (lv_at hl 0 rfl) ?_
  refine lv_bipush (v := 8) hx hb d_Mo_feed_37 (by decide +kernel) ?_
  refine lv_icmp_ge (tgt := 46) hx hb d_Mo_feed_39 (by decide) (fun c_178 => ?_) (fun c_178 => absurd (by decide +kernel) c_178)
  refine lv_iload hx hb d_Mo_feed_46 (lv_at hl 0 rfl) ?_
  refine lv_bipush (v := 12) hx hb d_Mo_feed_48 (by decide +kernel) ?_
  refine lv_icmp_ge (tgt := 57) hx hb d_Mo_feed_50 (by decide) (fun c_179 => ?_) (fun c_179 => absurd (by decide +kernel) c_179)
  refine lv_iload hx hb d_Mo_feed_57 (lv_at hl 0 rfl) ?_
  refine lv_bipush (v := 16) hx hb d_Mo_feed_59 (by decide +kernel) ?_
  refine lv_icmp_ge (tgt := 69) hx hb d_Mo_feed_61 (by decide) (fun c_180 => ?_) (fun c_180 => absurd (by decide +kernel) c_180)
  refine lv_iload hx hb d_Mo_feed_69 (lv_at hl 7 rfl) ?_
  refine lv_istore (lv' := [(7, .int p4), (6, .int 18), (0, .ref m0_), (1, .int p0), (2, .int p1), (3, .int p2), (4, .int p3), (5, .int p4)]) hx hb d_Mo_feed_71 hl (by decide) rfl (fun ls hl => ?_)
  refine lv_aload_n hx hb d_Mo_feed_73 rfl (lv_at hl 2 rfl) ?_
  refine va_get (D := D) (ci := 12) (v := .ref m0) (C := R_Mo) (T := F_Mo) (N := 55) hx hb hts i_Mo hown hK.1 hP 0 rfl rfl 0 (by decide) (hts _ k_1018) (fun _ h9 => h9) rfl d_Mo_feed_74 ?_
  refine lv_aload_n hx hb d_Mo_feed_77 rfl (lv_at hl 2 rfl) ?_
  refine va_get (D := D) (ci := 12) (v := .int 0) (C := R_Mo) (T := F_Mo) (N := 55) hx hb hts i_Mo hown hK.1 hP 0 rfl rfl 2 (by decide) (hts _ k_1020) (fun _ h9 => h9) rfl d_Mo_feed_78 ?_
  refine lv_iload hx hb d_Mo_feed_81 (lv_at hl 1 rfl) ?_
  refine lv_iadd hx hb d_Mo_feed_83 ?_
  refine nz_ctopi (v := 18) (by decide +kernel) ?_
  refine lv_iload hx hb d_Mo_feed_84 (lv_at hl 0 rfl) ?_
  refine lv_bipush (v := 24) hx hb d_Mo_feed_86 (by decide +kernel) ?_
  refine lv_bipush (v := 8) hx hb d_Mo_feed_88 (by decide +kernel) ?_
  refine lv_iload hx hb d_Mo_feed_90 (lv_at hl 1 rfl) ?_
  refine lv_iconst (v := 3) hx hb d_Mo_feed_92 (by decide +kernel) ?_
  refine lv_iand hx hb d_Mo_feed_93 ?_
  refine nz_ctopi (v := 2) (by decide +kernel) ?_
  refine lv_imul hx hb d_Mo_feed_94 ?_
  refine nz_ctopi (v := 16) (by decide +kernel) ?_
  refine lv_isub hx hb d_Mo_feed_95 ?_
  refine nz_ctopi (v := 8) (by decide +kernel) ?_
  refine lv_ishr hx hb d_Mo_feed_96 ?_
  refine lv_topi (fun x_181 e_182 => ?_)
  refine lv_i2b (v := x_181.toInt8.toInt32) hx hb d_Mo_feed_97 rfl ?_
  refine lv_topi (fun x_184 e_185 => ?_)
  refine nz_bastE hx hb hK.1 hP hD hS 1 0 rfl rfl (nz_vin (by decide +kernel)) d_Mo_feed_98 (fun H locs f_186 f_186_e hP hD hS => ?_)
  have hP : va_P D nz_cl [(m0_, .inr (12, [.ref m0, .ref m1, .int 0, .int 0, .int 0, .int (-1), .int 0, .int 0, .int 0, .int 0, .long 0, .ref m11, .ref m12, .ref m13, .ref m14, .ref m15, .ref m16, .ref m17, .ref m18, .ref m19, .ref m20, .ref m21, .ref m22, .ref m23, .ref m24, .ref m25, .ref m26, .ref m27, .ref m28, .ref m29, .ref m30, .ref m31, .ref m32, .ref m33, .ref m34, .ref m35, .ref m36, .ref m37, .ref m38, .int 0, .int 0, .ref m41, .ref m42, .ref m43, .ref m44, .int 0, .int 0, .ref m47, .ref m48, .ref m49, .ref m50, .ref m51, .ref m52, .ref m53, .ref m54])), (m0, .inl (cB, 1620, .inl f_186))] H := hP
  have hD : va_D A [(m0_, .inr (12, [.ref m0, .ref m1, .int 0, .int 0, .int 0, .int (-1), .int 0, .int 0, .int 0, .int 0, .long 0, .ref m11, .ref m12, .ref m13, .ref m14, .ref m15, .ref m16, .ref m17, .ref m18, .ref m19, .ref m20, .ref m21, .ref m22, .ref m23, .ref m24, .ref m25, .ref m26, .ref m27, .ref m28, .ref m29, .ref m30, .ref m31, .ref m32, .ref m33, .ref m34, .ref m35, .ref m36, .ref m37, .ref m38, .int 0, .int 0, .ref m41, .ref m42, .ref m43, .ref m44, .int 0, .int 0, .ref m47, .ref m48, .ref m49, .ref m50, .ref m51, .ref m52, .ref m53, .ref m54])), (m0, .inl (cB, 1620, .inl f_186))] := hD
  refine lv_iinc (v := 19) (lv' := [(6, .int 19), (7, .int p4), (0, .ref m0_), (1, .int p0), (2, .int p1), (3, .int p2), (4, .int p3), (5, .int p4)]) hx hb d_Mo_feed_99 hl (k := 1) rfl (by decide +kernel) (by decide) rfl (fun ls hl => ?_)
  refine lv_goto (tgt := 18) hx hb d_Mo_feed_102 (by decide) ?_
  refine lv_iload hx hb d_Mo_feed_18 (lv_at hl 0 rfl) ?_
  refine lv_bipush (v := 20) hx hb d_Mo_feed_20 (by decide +kernel) ?_
  refine lv_icmp_ge (tgt := 105) hx hb d_Mo_feed_22 (by decide) (fun c_187 => absurd c_187 (by decide +kernel)) (fun c_187 => ?_)
  refine lv_iload hx hb d_Mo_feed_25 (lv_at hl 0 rfl) ?_
  refine lv_iconst (v := 4) hx hb d_Mo_feed_27 (by decide +kernel) ?_
  refine lv_icmp_ge (tgt := 35) hx hb d_Mo_feed_28 (by decide) (fun c_188 => ?_) (fun c_188 => absurd (by decide +kernel) c_188)
  refine lv_iload hx hb d_Mo_feed_35 (lv_at hl 0 rfl) ?_
  refine lv_bipush (v := 8) hx hb d_Mo_feed_37 (by decide +kernel) ?_
  refine lv_icmp_ge (tgt := 46) hx hb d_Mo_feed_39 (by decide) (fun c_189 => ?_) (fun c_189 => absurd (by decide +kernel) c_189)
  refine lv_iload hx hb d_Mo_feed_46 (lv_at hl 0 rfl) ?_
  refine lv_bipush (v := 12) hx hb d_Mo_feed_48 (by decide +kernel) ?_
  refine lv_icmp_ge (tgt := 57) hx hb d_Mo_feed_50 (by decide) (fun c_190 => ?_) (fun c_190 => absurd (by decide +kernel) c_190)
  refine lv_iload hx hb d_Mo_feed_57 (lv_at hl 0 rfl) ?_
  refine lv_bipush (v := 16) hx hb d_Mo_feed_59 (by decide +kernel) ?_
  refine lv_icmp_ge (tgt := 69) hx hb d_Mo_feed_61 (by decide) (fun c_191 => ?_) (fun c_191 => absurd (by decide +kernel) c_191)
  refine lv_iload hx hb d_Mo_feed_69 (lv_at hl 7 rfl) ?_
  refine lv_istore (lv' := [(7, .int p4), (6, .int 19), (0, .ref m0_), (1, .int p0), (2, .int p1), (3, .int p2), (4, .int p3), (5, .int p4)]) hx hb d_Mo_feed_71 hl (by decide) rfl (fun ls hl => ?_)
  refine lv_aload_n hx hb d_Mo_feed_73 rfl (lv_at hl 2 rfl) ?_
  refine va_get (D := D) (ci := 12) (v := .ref m0) (C := R_Mo) (T := F_Mo) (N := 55) hx hb hts i_Mo hown hK.1 hP 0 rfl rfl 0 (by decide) (hts _ k_1018) (fun _ h9 => h9) rfl d_Mo_feed_74 ?_
  refine lv_aload_n hx hb d_Mo_feed_77 rfl (lv_at hl 2 rfl) ?_
  refine va_get (D := D) (ci := 12) (v := .int 0) (C := R_Mo) (T := F_Mo) (N := 55) hx hb hts i_Mo hown hK.1 hP 0 rfl rfl 2 (by decide) (hts _ k_1020) (fun _ h9 => h9) rfl d_Mo_feed_78 ?_
  refine lv_iload hx hb d_Mo_feed_81 (lv_at hl 1 rfl) ?_
  refine lv_iadd hx hb d_Mo_feed_83 ?_
  refine nz_ctopi (v := 19) (by decide +kernel) ?_
  refine lv_iload hx hb d_Mo_feed_84 (lv_at hl 0 rfl) ?_
  refine lv_bipush (v := 24) hx hb d_Mo_feed_86 (by decide +kernel) ?_
  refine lv_bipush (v := 8) hx hb d_Mo_feed_88 (by decide +kernel) ?_
  refine lv_iload hx hb d_Mo_feed_90 (lv_at hl 1 rfl) ?_
  refine lv_iconst (v := 3) hx hb d_Mo_feed_92 (by decide +kernel) ?_
  refine lv_iand hx hb d_Mo_feed_93 ?_
  refine nz_ctopi (v := 3) (by decide +kernel) ?_
  refine lv_imul hx hb d_Mo_feed_94 ?_
  refine nz_ctopi (v := 24) (by decide +kernel) ?_
  refine lv_isub hx hb d_Mo_feed_95 ?_
  refine nz_ctopi (v := 0) (by decide +kernel) ?_
  refine lv_ishr hx hb d_Mo_feed_96 ?_
  refine lv_topi (fun x_192 e_193 => ?_)
  refine lv_i2b (v := x_192.toInt8.toInt32) hx hb d_Mo_feed_97 rfl ?_
  refine lv_topi (fun x_195 e_196 => ?_)
  refine nz_bastE hx hb hK.1 hP hD hS 1 0 rfl rfl (nz_vin (by decide +kernel)) d_Mo_feed_98 (fun H locs f_197 f_197_e hP hD hS => ?_)
  have hP : va_P D nz_cl [(m0_, .inr (12, [.ref m0, .ref m1, .int 0, .int 0, .int 0, .int (-1), .int 0, .int 0, .int 0, .int 0, .long 0, .ref m11, .ref m12, .ref m13, .ref m14, .ref m15, .ref m16, .ref m17, .ref m18, .ref m19, .ref m20, .ref m21, .ref m22, .ref m23, .ref m24, .ref m25, .ref m26, .ref m27, .ref m28, .ref m29, .ref m30, .ref m31, .ref m32, .ref m33, .ref m34, .ref m35, .ref m36, .ref m37, .ref m38, .int 0, .int 0, .ref m41, .ref m42, .ref m43, .ref m44, .int 0, .int 0, .ref m47, .ref m48, .ref m49, .ref m50, .ref m51, .ref m52, .ref m53, .ref m54])), (m0, .inl (cB, 1620, .inl f_197))] H := hP
  have hD : va_D A [(m0_, .inr (12, [.ref m0, .ref m1, .int 0, .int 0, .int 0, .int (-1), .int 0, .int 0, .int 0, .int 0, .long 0, .ref m11, .ref m12, .ref m13, .ref m14, .ref m15, .ref m16, .ref m17, .ref m18, .ref m19, .ref m20, .ref m21, .ref m22, .ref m23, .ref m24, .ref m25, .ref m26, .ref m27, .ref m28, .ref m29, .ref m30, .ref m31, .ref m32, .ref m33, .ref m34, .ref m35, .ref m36, .ref m37, .ref m38, .int 0, .int 0, .ref m41, .ref m42, .ref m43, .ref m44, .int 0, .int 0, .ref m47, .ref m48, .ref m49, .ref m50, .ref m51, .ref m52, .ref m53, .ref m54])), (m0, .inl (cB, 1620, .inl f_197))] := hD
  refine lv_iinc (v := 20) (lv' := [(6, .int 20), (7, .int p4), (0, .ref m0_), (1, .int p0), (2, .int p1), (3, .int p2), (4, .int p3), (5, .int p4)]) hx hb d_Mo_feed_99 hl (k := 1) rfl (by decide +kernel) (by decide) rfl (fun ls hl => ?_)
  refine lv_goto (tgt := 18) hx hb d_Mo_feed_102 (by decide) ?_
  refine lv_iload hx hb d_Mo_feed_18 (lv_at hl 0 rfl) ?_
  refine lv_bipush (v := 20) hx hb d_Mo_feed_20 (by decide +kernel) ?_
  refine lv_icmp_ge (tgt := 105) hx hb d_Mo_feed_22 (by decide) (fun c_198 => ?_) (fun c_198 => absurd (by decide +kernel) c_198)
  refine lv_aload_n hx hb d_Mo_feed_105 rfl (lv_at hl 2 rfl) ?_
  refine lv_dup hx hb d_Mo_feed_106 rfl ?_
  refine va_get (D := D) (ci := 12) (v := .int 0) (C := R_Mo) (T := F_Mo) (N := 55) hx hb hts i_Mo hown hK.1 hP 0 rfl rfl 2 (by decide) (hts _ k_1020) (fun _ h9 => h9) rfl d_Mo_feed_107 ?_
  refine lv_bipush (v := 20) hx hb d_Mo_feed_110 (by decide +kernel) ?_
  refine lv_iadd hx hb d_Mo_feed_112 ?_
  refine nz_ctopi (v := 20) (by decide +kernel) ?_
  refine va_put (D := D) (ci := 12) (v := .int 20) (ty := .int) (C := R_Mo) (T := F_Mo) (N := 55) hx hb hts i_Mo t_Mo t_Mo_ok n_Mo hown hK.1 hP hD hS 0 rfl rfl 2 (by decide) (hts _ k_1020) (fun _ h9 => h9) rfl (by decide +kernel) rfl rfl (Nat.le_of_ble_eq_true rfl) d_Mo_feed_113 (fun H locs hP hD hS => ?_)
  have hP : va_P D nz_cl [(m0_, .inr (12, [.ref m0, .ref m1, .int 20, .int 0, .int 0, .int (-1), .int 0, .int 0, .int 0, .int 0, .long 0, .ref m11, .ref m12, .ref m13, .ref m14, .ref m15, .ref m16, .ref m17, .ref m18, .ref m19, .ref m20, .ref m21, .ref m22, .ref m23, .ref m24, .ref m25, .ref m26, .ref m27, .ref m28, .ref m29, .ref m30, .ref m31, .ref m32, .ref m33, .ref m34, .ref m35, .ref m36, .ref m37, .ref m38, .int 0, .int 0, .ref m41, .ref m42, .ref m43, .ref m44, .int 0, .int 0, .ref m47, .ref m48, .ref m49, .ref m50, .ref m51, .ref m52, .ref m53, .ref m54])), (m0, .inl (cB, 1620, .inl f_197))] H := hP
  have hD : va_D A [(m0_, .inr (12, [.ref m0, .ref m1, .int 20, .int 0, .int 0, .int (-1), .int 0, .int 0, .int 0, .int 0, .long 0, .ref m11, .ref m12, .ref m13, .ref m14, .ref m15, .ref m16, .ref m17, .ref m18, .ref m19, .ref m20, .ref m21, .ref m22, .ref m23, .ref m24, .ref m25, .ref m26, .ref m27, .ref m28, .ref m29, .ref m30, .ref m31, .ref m32, .ref m33, .ref m34, .ref m35, .ref m36, .ref m37, .ref m38, .int 0, .int 0, .ref m41, .ref m42, .ref m43, .ref m44, .int 0, .int 0, .ref m47, .ref m48, .ref m49, .ref m50, .ref m51, .ref m52, .ref m53, .ref m54])), (m0, .inl (cB, 1620, .inl f_197))] := hD
  refine lv_aload_n hx hb d_Mo_feed_116 rfl (lv_at hl 2 rfl) ?_
  refine va_get (D := D) (ci := 12) (v := .int 20) (C := R_Mo) (T := F_Mo) (N := 55) hx hb hts i_Mo hown hK.1 hP 0 rfl rfl 2 (by decide) (hts _ k_1020) (fun _ h9 => h9) rfl d_Mo_feed_117 ?_
  exact nz_reti C0 (hP.sub (ws' := [(m0_, .inr (12, [.ref m0, .ref m1, .int 20, .int 0, .int 0, .int (-1), .int 0, .int 0, .int 0, .int 0, .long 0, .ref m11, .ref m12, .ref m13, .ref m14, .ref m15, .ref m16, .ref m17, .ref m18, .ref m19, .ref m20, .ref m21, .ref m22, .ref m23, .ref m24, .ref m25, .ref m26, .ref m27, .ref m28, .ref m29, .ref m30, .ref m31, .ref m32, .ref m33, .ref m34, .ref m35, .ref m36, .ref m37, .ref m38, .int 0, .int 0, .ref m41, .ref m42, .ref m43, .ref m44, .int 0, .int 0, .ref m47, .ref m48, .ref m49, .ref m50, .ref m51, .ref m52, .ref m53, .ref m54])), (m0, .inl (cB, 1620, .inl f_197))]) [0, 1] rfl) (hD.sub (ws' := [(m0_, .inr (12, [.ref m0, .ref m1, .int 20, .int 0, .int 0, .int (-1), .int 0, .int 0, .int 0, .int 0, .long 0, .ref m11, .ref m12, .ref m13, .ref m14, .ref m15, .ref m16, .ref m17, .ref m18, .ref m19, .ref m20, .ref m21, .ref m22, .ref m23, .ref m24, .ref m25, .ref m26, .ref m27, .ref m28, .ref m29, .ref m30, .ref m31, .ref m32, .ref m33, .ref m34, .ref m35, .ref m36, .ref m37, .ref m38, .int 0, .int 0, .ref m41, .ref m42, .ref m43, .ref m44, .int 0, .int 0, .ref m47, .ref m48, .ref m49, .ref m50, .ref m51, .ref m52, .ref m53, .ref m54])), (m0, .inl (cB, 1620, .inl f_197))]) [0, 1] (by decide) rfl) hS ⟨(f_197), rfl, rfl⟩ d_Mo_feed_120
end
