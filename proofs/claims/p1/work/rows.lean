section
-- ===== PART A: goes FIRST, ahead of the names: the tables' words, and 'selects' of the private methods out of them =====
/-- a private method of a class that the tables say can be made, by its rows of tables_1 -/
def lw_okq (q : MethodName × Nat) : Prop := (q.1.cls ≠ "java/lang/invoke/MethodHandle" ∧ q.1.cls ≠ "java/lang/invoke/VarHandle") ∧ Cond.instantiable q.1.cls q.2 ∈ tables_1 ∧ Cond.privateMethod q.1 ∈ tables_1 ∧ Cond.instanceMethod q.1 ∈ tables_1
theorem lw_p0 : lw_okq (⟨"MixfixBench$Lexer", "takeToken", "(I)I"⟩, 7) := ⟨⟨by decide +kernel, by decide +kernel⟩, List.mem_of_getElem? (i := 189) (by decide +kernel), List.mem_of_getElem? (i := 459) (by decide +kernel), List.mem_of_getElem? (i := 460) (by decide +kernel)⟩
theorem lw_p1 : lw_okq (⟨"MixfixBench$Lexer", "takeName", "()I"⟩, 7) := ⟨⟨by decide +kernel, by decide +kernel⟩, List.mem_of_getElem? (i := 189) (by decide +kernel), List.mem_of_getElem? (i := 466) (by decide +kernel), List.mem_of_getElem? (i := 467) (by decide +kernel)⟩
theorem lw_p2 : lw_okq (⟨"MixfixBench$Lexer", "takeNumber", "()I"⟩, 7) := ⟨⟨by decide +kernel, by decide +kernel⟩, List.mem_of_getElem? (i := 189) (by decide +kernel), List.mem_of_getElem? (i := 486) (by decide +kernel), List.mem_of_getElem? (i := 487) (by decide +kernel)⟩
theorem lw_p3 : lw_okq (⟨"MixfixBench$Lexer", "takePart", "()I"⟩, 7) := ⟨⟨by decide +kernel, by decide +kernel⟩, List.mem_of_getElem? (i := 189) (by decide +kernel), List.mem_of_getElem? (i := 492) (by decide +kernel), List.mem_of_getElem? (i := 493) (by decide +kernel)⟩
theorem lw_p4 : lw_okq (⟨"MixfixBench$Lexer", "takeSign", "(I)I"⟩, 7) := ⟨⟨by decide +kernel, by decide +kernel⟩, List.mem_of_getElem? (i := 189) (by decide +kernel), List.mem_of_getElem? (i := 499) (by decide +kernel), List.mem_of_getElem? (i := 500) (by decide +kernel)⟩
theorem lw_p5 : lw_okq (⟨"MixfixBench$Parser", "parseRank", "()V"⟩, 4) := ⟨⟨by decide +kernel, by decide +kernel⟩, List.mem_of_getElem? (i := 183) (by decide +kernel), List.mem_of_getElem? (i := 520) (by decide +kernel), List.mem_of_getElem? (i := 521) (by decide +kernel)⟩
theorem lw_p6 : lw_okq (⟨"MixfixBench$Parser", "refuse", "()V"⟩, 4) := ⟨⟨by decide +kernel, by decide +kernel⟩, List.mem_of_getElem? (i := 183) (by decide +kernel), List.mem_of_getElem? (i := 524) (by decide +kernel), List.mem_of_getElem? (i := 525) (by decide +kernel)⟩
theorem lw_p7 : lw_okq (⟨"MixfixBench$Parser", "blame", "(II)V"⟩, 4) := ⟨⟨by decide +kernel, by decide +kernel⟩, List.mem_of_getElem? (i := 183) (by decide +kernel), List.mem_of_getElem? (i := 532) (by decide +kernel), List.mem_of_getElem? (i := 533) (by decide +kernel)⟩
theorem lw_p8 : lw_okq (⟨"MixfixBench$Parser", "pass", "(I)Z"⟩, 4) := ⟨⟨by decide +kernel, by decide +kernel⟩, List.mem_of_getElem? (i := 183) (by decide +kernel), List.mem_of_getElem? (i := 552) (by decide +kernel), List.mem_of_getElem? (i := 553) (by decide +kernel)⟩
theorem lw_p9 : lw_okq (⟨"MixfixBench$Parser", "parseTighter", "()V"⟩, 4) := ⟨⟨by decide +kernel, by decide +kernel⟩, List.mem_of_getElem? (i := 183) (by decide +kernel), List.mem_of_getElem? (i := 557) (by decide +kernel), List.mem_of_getElem? (i := 558) (by decide +kernel)⟩
theorem lw_p10 : lw_okq (⟨"MixfixBench$Parser", "passRank", "()I"⟩, 4) := ⟨⟨by decide +kernel, by decide +kernel⟩, List.mem_of_getElem? (i := 183) (by decide +kernel), List.mem_of_getElem? (i := 561) (by decide +kernel), List.mem_of_getElem? (i := 562) (by decide +kernel)⟩
theorem lw_p11 : lw_okq (⟨"MixfixBench$Parser", "passName", "(I)I"⟩, 4) := ⟨⟨by decide +kernel, by decide +kernel⟩, List.mem_of_getElem? (i := 183) (by decide +kernel), List.mem_of_getElem? (i := 565) (by decide +kernel), List.mem_of_getElem? (i := 566) (by decide +kernel)⟩
theorem lw_p12 : lw_okq (⟨"MixfixBench$Parser", "parseKind", "()V"⟩, 4) := ⟨⟨by decide +kernel, by decide +kernel⟩, List.mem_of_getElem? (i := 183) (by decide +kernel), List.mem_of_getElem? (i := 582) (by decide +kernel), List.mem_of_getElem? (i := 583) (by decide +kernel)⟩
theorem lw_p13 : lw_okq (⟨"MixfixBench$Parser", "passKind", "()I"⟩, 4) := ⟨⟨by decide +kernel, by decide +kernel⟩, List.mem_of_getElem? (i := 183) (by decide +kernel), List.mem_of_getElem? (i := 591) (by decide +kernel), List.mem_of_getElem? (i := 592) (by decide +kernel)⟩
theorem lw_p14 : lw_okq (⟨"MixfixBench$Parser", "parseWord", "()V"⟩, 4) := ⟨⟨by decide +kernel, by decide +kernel⟩, List.mem_of_getElem? (i := 183) (by decide +kernel), List.mem_of_getElem? (i := 604) (by decide +kernel), List.mem_of_getElem? (i := 605) (by decide +kernel)⟩
theorem lw_p15 : lw_okq (⟨"MixfixBench$Parser", "parseLean", "(LMixfixBench$Word;)V"⟩, 4) := ⟨⟨by decide +kernel, by decide +kernel⟩, List.mem_of_getElem? (i := 183) (by decide +kernel), List.mem_of_getElem? (i := 612) (by decide +kernel), List.mem_of_getElem? (i := 613) (by decide +kernel)⟩
def lw_privs_1 : List (MethodName × Nat) := [(⟨"MixfixBench$Lexer", "takeToken", "(I)I"⟩, 7), (⟨"MixfixBench$Lexer", "takeName", "()I"⟩, 7), (⟨"MixfixBench$Lexer", "takeNumber", "()I"⟩, 7), (⟨"MixfixBench$Lexer", "takePart", "()I"⟩, 7), (⟨"MixfixBench$Lexer", "takeSign", "(I)I"⟩, 7), (⟨"MixfixBench$Parser", "parseRank", "()V"⟩, 4), (⟨"MixfixBench$Parser", "refuse", "()V"⟩, 4), (⟨"MixfixBench$Parser", "blame", "(II)V"⟩, 4), (⟨"MixfixBench$Parser", "pass", "(I)Z"⟩, 4), (⟨"MixfixBench$Parser", "parseTighter", "()V"⟩, 4), (⟨"MixfixBench$Parser", "passRank", "()I"⟩, 4), (⟨"MixfixBench$Parser", "passName", "(I)I"⟩, 4), (⟨"MixfixBench$Parser", "parseKind", "()V"⟩, 4), (⟨"MixfixBench$Parser", "passKind", "()I"⟩, 4), (⟨"MixfixBench$Parser", "parseWord", "()V"⟩, 4), (⟨"MixfixBench$Parser", "parseLean", "(LMixfixBench$Word;)V"⟩, 4)]
theorem lw_r1 : ∀ q ∈ lw_privs_1, lw_okq q := List.forall_mem_cons.mpr ⟨lw_p0, List.forall_mem_cons.mpr ⟨lw_p1, List.forall_mem_cons.mpr ⟨lw_p2, List.forall_mem_cons.mpr ⟨lw_p3, List.forall_mem_cons.mpr ⟨lw_p4, List.forall_mem_cons.mpr ⟨lw_p5, List.forall_mem_cons.mpr ⟨lw_p6, List.forall_mem_cons.mpr ⟨lw_p7, List.forall_mem_cons.mpr ⟨lw_p8, List.forall_mem_cons.mpr ⟨lw_p9, List.forall_mem_cons.mpr ⟨lw_p10, List.forall_mem_cons.mpr ⟨lw_p11, List.forall_mem_cons.mpr ⟨lw_p12, List.forall_mem_cons.mpr ⟨lw_p13, List.forall_mem_cons.mpr ⟨lw_p14, List.forall_mem_cons.mpr ⟨lw_p15, fun _ h => absurd h List.not_mem_nil⟩⟩⟩⟩⟩⟩⟩⟩⟩⟩⟩⟩⟩⟩⟩⟩
theorem lw_p16 : lw_okq (⟨"MixfixBench$Parser", "parseElements", "(LMixfixBench$Word;)Z"⟩, 4) := ⟨⟨by decide +kernel, by decide +kernel⟩, List.mem_of_getElem? (i := 183) (by decide +kernel), List.mem_of_getElem? (i := 618) (by decide +kernel), List.mem_of_getElem? (i := 619) (by decide +kernel)⟩
theorem lw_p17 : lw_okq (⟨"MixfixBench$Parser", "parseSteps", "(LMixfixBench$Word;)Z"⟩, 4) := ⟨⟨by decide +kernel, by decide +kernel⟩, List.mem_of_getElem? (i := 183) (by decide +kernel), List.mem_of_getElem? (i := 646) (by decide +kernel), List.mem_of_getElem? (i := 647) (by decide +kernel)⟩
theorem lw_p18 : lw_okq (⟨"MixfixBench$Parser", "parseStep", "(LMixfixBench$Word;I)I"⟩, 4) := ⟨⟨by decide +kernel, by decide +kernel⟩, List.mem_of_getElem? (i := 183) (by decide +kernel), List.mem_of_getElem? (i := 650) (by decide +kernel), List.mem_of_getElem? (i := 651) (by decide +kernel)⟩
theorem lw_p19 : lw_okq (⟨"MixfixBench$Parser", "isNumber", "()Z"⟩, 4) := ⟨⟨by decide +kernel, by decide +kernel⟩, List.mem_of_getElem? (i := 183) (by decide +kernel), List.mem_of_getElem? (i := 654) (by decide +kernel), List.mem_of_getElem? (i := 655) (by decide +kernel)⟩
theorem lw_p20 : lw_okq (⟨"MixfixBench$Book", "wordsFitting", "(LMixfixBench$Word;I)I"⟩, 8) := ⟨⟨by decide +kernel, by decide +kernel⟩, List.mem_of_getElem? (i := 40) (by decide +kernel), List.mem_of_getElem? (i := 682) (by decide +kernel), List.mem_of_getElem? (i := 683) (by decide +kernel)⟩
theorem lw_p21 : lw_okq (⟨"MixfixBench", "dropReading", "()V"⟩, 9) := ⟨⟨by decide +kernel, by decide +kernel⟩, List.mem_of_getElem? (i := 15) (by decide +kernel), List.mem_of_getElem? (i := 687) (by decide +kernel), List.mem_of_getElem? (i := 688) (by decide +kernel)⟩
theorem lw_p22 : lw_okq (⟨"MixfixBench$Chart", "fillStretch", "(II)V"⟩, 8) := ⟨⟨by decide +kernel, by decide +kernel⟩, List.mem_of_getElem? (i := 290) (by decide +kernel), List.mem_of_getElem? (i := 756) (by decide +kernel), List.mem_of_getElem? (i := 757) (by decide +kernel)⟩
theorem lw_p23 : lw_okq (⟨"MixfixBench$Chart", "ways", "(IIII)J"⟩, 8) := ⟨⟨by decide +kernel, by decide +kernel⟩, List.mem_of_getElem? (i := 290) (by decide +kernel), List.mem_of_getElem? (i := 763) (by decide +kernel), List.mem_of_getElem? (i := 764) (by decide +kernel)⟩
theorem lw_p24 : lw_okq (⟨"MixfixBench$Chart", "fillKinds", "(II)V"⟩, 8) := ⟨⟨by decide +kernel, by decide +kernel⟩, List.mem_of_getElem? (i := 290) (by decide +kernel), List.mem_of_getElem? (i := 787) (by decide +kernel), List.mem_of_getElem? (i := 788) (by decide +kernel)⟩
theorem lw_p25 : lw_okq (⟨"MixfixBench$Chart", "sumOfKinds", "(II)J"⟩, 8) := ⟨⟨by decide +kernel, by decide +kernel⟩, List.mem_of_getElem? (i := 290) (by decide +kernel), List.mem_of_getElem? (i := 810) (by decide +kernel), List.mem_of_getElem? (i := 811) (by decide +kernel)⟩
theorem lw_p26 : lw_okq (⟨"MixfixBench$Chart", "sumOfWords", "(II)J"⟩, 8) := ⟨⟨by decide +kernel, by decide +kernel⟩, List.mem_of_getElem? (i := 290) (by decide +kernel), List.mem_of_getElem? (i := 816) (by decide +kernel), List.mem_of_getElem? (i := 817) (by decide +kernel)⟩
theorem lw_p27 : lw_okq (⟨"MixfixBench$Chart", "fillHoles", "(II)V"⟩, 8) := ⟨⟨by decide +kernel, by decide +kernel⟩, List.mem_of_getElem? (i := 290) (by decide +kernel), List.mem_of_getElem? (i := 820) (by decide +kernel), List.mem_of_getElem? (i := 821) (by decide +kernel)⟩
theorem lw_p28 : lw_okq (⟨"MixfixBench$Chart", "fillTails", "(III)V"⟩, 8) := ⟨⟨by decide +kernel, by decide +kernel⟩, List.mem_of_getElem? (i := 290) (by decide +kernel), List.mem_of_getElem? (i := 824) (by decide +kernel), List.mem_of_getElem? (i := 825) (by decide +kernel)⟩
theorem lw_p29 : lw_okq (⟨"MixfixBench$Finder", "await", "(IIII)V"⟩, 13) := ⟨⟨by decide +kernel, by decide +kernel⟩, List.mem_of_getElem? (i := 323) (by decide +kernel), List.mem_of_getElem? (i := 845) (by decide +kernel), List.mem_of_getElem? (i := 846) (by decide +kernel)⟩
theorem lw_p30 : lw_okq (⟨"MixfixBench$Finder", "demand", "(IIJ)V"⟩, 13) := ⟨⟨by decide +kernel, by decide +kernel⟩, List.mem_of_getElem? (i := 323) (by decide +kernel), List.mem_of_getElem? (i := 849) (by decide +kernel), List.mem_of_getElem? (i := 850) (by decide +kernel)⟩
theorem lw_p31 : lw_okq (⟨"MixfixBench$Finder", "makeNode", "()V"⟩, 13) := ⟨⟨by decide +kernel, by decide +kernel⟩, List.mem_of_getElem? (i := 323) (by decide +kernel), List.mem_of_getElem? (i := 853) (by decide +kernel), List.mem_of_getElem? (i := 854) (by decide +kernel)⟩
def lw_privs_2 : List (MethodName × Nat) := [(⟨"MixfixBench$Parser", "parseElements", "(LMixfixBench$Word;)Z"⟩, 4), (⟨"MixfixBench$Parser", "parseSteps", "(LMixfixBench$Word;)Z"⟩, 4), (⟨"MixfixBench$Parser", "parseStep", "(LMixfixBench$Word;I)I"⟩, 4), (⟨"MixfixBench$Parser", "isNumber", "()Z"⟩, 4), (⟨"MixfixBench$Book", "wordsFitting", "(LMixfixBench$Word;I)I"⟩, 8), (⟨"MixfixBench", "dropReading", "()V"⟩, 9), (⟨"MixfixBench$Chart", "fillStretch", "(II)V"⟩, 8), (⟨"MixfixBench$Chart", "ways", "(IIII)J"⟩, 8), (⟨"MixfixBench$Chart", "fillKinds", "(II)V"⟩, 8), (⟨"MixfixBench$Chart", "sumOfKinds", "(II)J"⟩, 8), (⟨"MixfixBench$Chart", "sumOfWords", "(II)J"⟩, 8), (⟨"MixfixBench$Chart", "fillHoles", "(II)V"⟩, 8), (⟨"MixfixBench$Chart", "fillTails", "(III)V"⟩, 8), (⟨"MixfixBench$Finder", "await", "(IIII)V"⟩, 13), (⟨"MixfixBench$Finder", "demand", "(IIJ)V"⟩, 13), (⟨"MixfixBench$Finder", "makeNode", "()V"⟩, 13)]
theorem lw_r2 : ∀ q ∈ lw_privs_2, lw_okq q := List.forall_mem_cons.mpr ⟨lw_p16, List.forall_mem_cons.mpr ⟨lw_p17, List.forall_mem_cons.mpr ⟨lw_p18, List.forall_mem_cons.mpr ⟨lw_p19, List.forall_mem_cons.mpr ⟨lw_p20, List.forall_mem_cons.mpr ⟨lw_p21, List.forall_mem_cons.mpr ⟨lw_p22, List.forall_mem_cons.mpr ⟨lw_p23, List.forall_mem_cons.mpr ⟨lw_p24, List.forall_mem_cons.mpr ⟨lw_p25, List.forall_mem_cons.mpr ⟨lw_p26, List.forall_mem_cons.mpr ⟨lw_p27, List.forall_mem_cons.mpr ⟨lw_p28, List.forall_mem_cons.mpr ⟨lw_p29, List.forall_mem_cons.mpr ⟨lw_p30, List.forall_mem_cons.mpr ⟨lw_p31, fun _ h => absurd h List.not_mem_nil⟩⟩⟩⟩⟩⟩⟩⟩⟩⟩⟩⟩⟩⟩⟩⟩
theorem lw_p32 : lw_okq (⟨"MixfixBench$Finder", "chooseWord", "(I)I"⟩, 13) := ⟨⟨by decide +kernel, by decide +kernel⟩, List.mem_of_getElem? (i := 323) (by decide +kernel), List.mem_of_getElem? (i := 857) (by decide +kernel), List.mem_of_getElem? (i := 858) (by decide +kernel)⟩
theorem lw_p33 : lw_okq (⟨"MixfixBench$Finder", "splitWord", "(IIIJ)J"⟩, 13) := ⟨⟨by decide +kernel, by decide +kernel⟩, List.mem_of_getElem? (i := 323) (by decide +kernel), List.mem_of_getElem? (i := 879) (by decide +kernel), List.mem_of_getElem? (i := 880) (by decide +kernel)⟩
theorem lw_p34 : lw_okq (⟨"MixfixBench$Finder", "fillWord", "(IIJ)V"⟩, 13) := ⟨⟨by decide +kernel, by decide +kernel⟩, List.mem_of_getElem? (i := 323) (by decide +kernel), List.mem_of_getElem? (i := 887) (by decide +kernel), List.mem_of_getElem? (i := 888) (by decide +kernel)⟩
theorem lw_p35 : lw_okq (⟨"MixfixBench$Worker", "workNode", "(LMixfixBench$Book;I)I"⟩, 7) := ⟨⟨by decide +kernel, by decide +kernel⟩, List.mem_of_getElem? (i := 369) (by decide +kernel), List.mem_of_getElem? (i := 909) (by decide +kernel), List.mem_of_getElem? (i := 910) (by decide +kernel)⟩
theorem lw_p36 : lw_okq (⟨"MixfixBench$Worker", "runSteps", "(LMixfixBench$Word;I)Z"⟩, 7) := ⟨⟨by decide +kernel, by decide +kernel⟩, List.mem_of_getElem? (i := 369) (by decide +kernel), List.mem_of_getElem? (i := 918) (by decide +kernel), List.mem_of_getElem? (i := 919) (by decide +kernel)⟩
theorem lw_p37 : lw_okq (⟨"MixfixBench$Worker", "push", "(I)V"⟩, 7) := ⟨⟨by decide +kernel, by decide +kernel⟩, List.mem_of_getElem? (i := 369) (by decide +kernel), List.mem_of_getElem? (i := 922) (by decide +kernel), List.mem_of_getElem? (i := 923) (by decide +kernel)⟩
theorem lw_p38 : lw_okq (⟨"MixfixBench$Worker", "operate", "(I)Z"⟩, 7) := ⟨⟨by decide +kernel, by decide +kernel⟩, List.mem_of_getElem? (i := 369) (by decide +kernel), List.mem_of_getElem? (i := 926) (by decide +kernel), List.mem_of_getElem? (i := 927) (by decide +kernel)⟩
theorem lw_p39 : lw_okq (⟨"MixfixBenchModel", "next", "()V"⟩, 72) := ⟨⟨by decide +kernel, by decide +kernel⟩, List.mem_of_getElem? (i := 956) (by decide +kernel), List.mem_of_getElem? (i := 1186) (by decide +kernel), List.mem_of_getElem? (i := 1187) (by decide +kernel)⟩
theorem lw_p40 : lw_okq (⟨"MixfixBenchModel", "sign", "(I)I"⟩, 72) := ⟨⟨by decide +kernel, by decide +kernel⟩, List.mem_of_getElem? (i := 956) (by decide +kernel), List.mem_of_getElem? (i := 1190) (by decide +kernel), List.mem_of_getElem? (i := 1191) (by decide +kernel)⟩
theorem lw_p41 : lw_okq (⟨"MixfixBenchModel", "pack", "(II)V"⟩, 72) := ⟨⟨by decide +kernel, by decide +kernel⟩, List.mem_of_getElem? (i := 956) (by decide +kernel), List.mem_of_getElem? (i := 1200) (by decide +kernel), List.mem_of_getElem? (i := 1201) (by decide +kernel)⟩
theorem lw_p42 : lw_okq (⟨"MixfixBenchModel", "nextPart", "()V"⟩, 72) := ⟨⟨by decide +kernel, by decide +kernel⟩, List.mem_of_getElem? (i := 956) (by decide +kernel), List.mem_of_getElem? (i := 1211) (by decide +kernel), List.mem_of_getElem? (i := 1212) (by decide +kernel)⟩
theorem lw_p43 : lw_okq (⟨"MixfixBenchModel", "isGood", "()Z"⟩, 72) := ⟨⟨by decide +kernel, by decide +kernel⟩, List.mem_of_getElem? (i := 956) (by decide +kernel), List.mem_of_getElem? (i := 1218) (by decide +kernel), List.mem_of_getElem? (i := 1219) (by decide +kernel)⟩
theorem lw_p44 : lw_okq (⟨"MixfixBenchModel", "wrong", "()V"⟩, 72) := ⟨⟨by decide +kernel, by decide +kernel⟩, List.mem_of_getElem? (i := 956) (by decide +kernel), List.mem_of_getElem? (i := 1222) (by decide +kernel), List.mem_of_getElem? (i := 1223) (by decide +kernel)⟩
theorem lw_p45 : lw_okq (⟨"MixfixBenchModel", "fails", "(II)V"⟩, 72) := ⟨⟨by decide +kernel, by decide +kernel⟩, List.mem_of_getElem? (i := 956) (by decide +kernel), List.mem_of_getElem? (i := 1226) (by decide +kernel), List.mem_of_getElem? (i := 1227) (by decide +kernel)⟩
theorem lw_p46 : lw_okq (⟨"MixfixBenchModel", "readRank", "()V"⟩, 72) := ⟨⟨by decide +kernel, by decide +kernel⟩, List.mem_of_getElem? (i := 956) (by decide +kernel), List.mem_of_getElem? (i := 1230) (by decide +kernel), List.mem_of_getElem? (i := 1231) (by decide +kernel)⟩
theorem lw_p47 : lw_okq (⟨"MixfixBenchModel", "rankOf", "(J)I"⟩, 72) := ⟨⟨by decide +kernel, by decide +kernel⟩, List.mem_of_getElem? (i := 956) (by decide +kernel), List.mem_of_getElem? (i := 1234) (by decide +kernel), List.mem_of_getElem? (i := 1235) (by decide +kernel)⟩
def lw_privs_3 : List (MethodName × Nat) := [(⟨"MixfixBench$Finder", "chooseWord", "(I)I"⟩, 13), (⟨"MixfixBench$Finder", "splitWord", "(IIIJ)J"⟩, 13), (⟨"MixfixBench$Finder", "fillWord", "(IIJ)V"⟩, 13), (⟨"MixfixBench$Worker", "workNode", "(LMixfixBench$Book;I)I"⟩, 7), (⟨"MixfixBench$Worker", "runSteps", "(LMixfixBench$Word;I)Z"⟩, 7), (⟨"MixfixBench$Worker", "push", "(I)V"⟩, 7), (⟨"MixfixBench$Worker", "operate", "(I)Z"⟩, 7), (⟨"MixfixBenchModel", "next", "()V"⟩, 72), (⟨"MixfixBenchModel", "sign", "(I)I"⟩, 72), (⟨"MixfixBenchModel", "pack", "(II)V"⟩, 72), (⟨"MixfixBenchModel", "nextPart", "()V"⟩, 72), (⟨"MixfixBenchModel", "isGood", "()Z"⟩, 72), (⟨"MixfixBenchModel", "wrong", "()V"⟩, 72), (⟨"MixfixBenchModel", "fails", "(II)V"⟩, 72), (⟨"MixfixBenchModel", "readRank", "()V"⟩, 72), (⟨"MixfixBenchModel", "rankOf", "(J)I"⟩, 72)]
theorem lw_r3 : ∀ q ∈ lw_privs_3, lw_okq q := List.forall_mem_cons.mpr ⟨lw_p32, List.forall_mem_cons.mpr ⟨lw_p33, List.forall_mem_cons.mpr ⟨lw_p34, List.forall_mem_cons.mpr ⟨lw_p35, List.forall_mem_cons.mpr ⟨lw_p36, List.forall_mem_cons.mpr ⟨lw_p37, List.forall_mem_cons.mpr ⟨lw_p38, List.forall_mem_cons.mpr ⟨lw_p39, List.forall_mem_cons.mpr ⟨lw_p40, List.forall_mem_cons.mpr ⟨lw_p41, List.forall_mem_cons.mpr ⟨lw_p42, List.forall_mem_cons.mpr ⟨lw_p43, List.forall_mem_cons.mpr ⟨lw_p44, List.forall_mem_cons.mpr ⟨lw_p45, List.forall_mem_cons.mpr ⟨lw_p46, List.forall_mem_cons.mpr ⟨lw_p47, fun _ h => absurd h List.not_mem_nil⟩⟩⟩⟩⟩⟩⟩⟩⟩⟩⟩⟩⟩⟩⟩⟩
theorem lw_p48 : lw_okq (⟨"MixfixBenchModel", "must", "(I)V"⟩, 72) := ⟨⟨by decide +kernel, by decide +kernel⟩, List.mem_of_getElem? (i := 956) (by decide +kernel), List.mem_of_getElem? (i := 1238) (by decide +kernel), List.mem_of_getElem? (i := 1239) (by decide +kernel)⟩
theorem lw_p49 : lw_okq (⟨"MixfixBenchModel", "is", "(I)Z"⟩, 72) := ⟨⟨by decide +kernel, by decide +kernel⟩, List.mem_of_getElem? (i := 956) (by decide +kernel), List.mem_of_getElem? (i := 1242) (by decide +kernel), List.mem_of_getElem? (i := 1243) (by decide +kernel)⟩
theorem lw_p50 : lw_okq (⟨"MixfixBenchModel", "readTighter", "()V"⟩, 72) := ⟨⟨by decide +kernel, by decide +kernel⟩, List.mem_of_getElem? (i := 956) (by decide +kernel), List.mem_of_getElem? (i := 1246) (by decide +kernel), List.mem_of_getElem? (i := 1247) (by decide +kernel)⟩
theorem lw_p51 : lw_okq (⟨"MixfixBenchModel", "aRank", "()I"⟩, 72) := ⟨⟨by decide +kernel, by decide +kernel⟩, List.mem_of_getElem? (i := 956) (by decide +kernel), List.mem_of_getElem? (i := 1250) (by decide +kernel), List.mem_of_getElem? (i := 1251) (by decide +kernel)⟩
theorem lw_p52 : lw_okq (⟨"MixfixBenchModel", "tight", "(II)Z"⟩, 72) := ⟨⟨by decide +kernel, by decide +kernel⟩, List.mem_of_getElem? (i := 956) (by decide +kernel), List.mem_of_getElem? (i := 1254) (by decide +kernel), List.mem_of_getElem? (i := 1255) (by decide +kernel)⟩
theorem lw_p53 : lw_okq (⟨"MixfixBenchModel", "readKind", "()V"⟩, 72) := ⟨⟨by decide +kernel, by decide +kernel⟩, List.mem_of_getElem? (i := 956) (by decide +kernel), List.mem_of_getElem? (i := 1258) (by decide +kernel), List.mem_of_getElem? (i := 1259) (by decide +kernel)⟩
theorem lw_p54 : lw_okq (⟨"MixfixBenchModel", "kindOf", "(J)I"⟩, 72) := ⟨⟨by decide +kernel, by decide +kernel⟩, List.mem_of_getElem? (i := 956) (by decide +kernel), List.mem_of_getElem? (i := 1262) (by decide +kernel), List.mem_of_getElem? (i := 1263) (by decide +kernel)⟩
theorem lw_p55 : lw_okq (⟨"MixfixBenchModel", "isWord", "(J)Z"⟩, 72) := ⟨⟨by decide +kernel, by decide +kernel⟩, List.mem_of_getElem? (i := 956) (by decide +kernel), List.mem_of_getElem? (i := 1266) (by decide +kernel), List.mem_of_getElem? (i := 1267) (by decide +kernel)⟩
theorem lw_p56 : lw_okq (⟨"MixfixBenchModel", "aKind", "()I"⟩, 72) := ⟨⟨by decide +kernel, by decide +kernel⟩, List.mem_of_getElem? (i := 956) (by decide +kernel), List.mem_of_getElem? (i := 1270) (by decide +kernel), List.mem_of_getElem? (i := 1271) (by decide +kernel)⟩
theorem lw_p57 : lw_okq (⟨"MixfixBenchModel", "readWord", "()V"⟩, 72) := ⟨⟨by decide +kernel, by decide +kernel⟩, List.mem_of_getElem? (i := 956) (by decide +kernel), List.mem_of_getElem? (i := 1274) (by decide +kernel), List.mem_of_getElem? (i := 1275) (by decide +kernel)⟩
theorem lw_p58 : lw_okq (⟨"MixfixBenchModel", "readElement", "(I)V"⟩, 72) := ⟨⟨by decide +kernel, by decide +kernel⟩, List.mem_of_getElem? (i := 956) (by decide +kernel), List.mem_of_getElem? (i := 1278) (by decide +kernel), List.mem_of_getElem? (i := 1279) (by decide +kernel)⟩
theorem lw_p59 : lw_okq (⟨"MixfixBenchModel", "ends", "(I)I"⟩, 72) := ⟨⟨by decide +kernel, by decide +kernel⟩, List.mem_of_getElem? (i := 956) (by decide +kernel), List.mem_of_getElem? (i := 1282) (by decide +kernel), List.mem_of_getElem? (i := 1283) (by decide +kernel)⟩
theorem lw_p60 : lw_okq (⟨"MixfixBenchModel", "readSteps", "(I)V"⟩, 72) := ⟨⟨by decide +kernel, by decide +kernel⟩, List.mem_of_getElem? (i := 956) (by decide +kernel), List.mem_of_getElem? (i := 1286) (by decide +kernel), List.mem_of_getElem? (i := 1287) (by decide +kernel)⟩
theorem lw_p61 : lw_okq (⟨"MixfixBenchModel", "isWordNumber", "(I)Z"⟩, 72) := ⟨⟨by decide +kernel, by decide +kernel⟩, List.mem_of_getElem? (i := 956) (by decide +kernel), List.mem_of_getElem? (i := 1302) (by decide +kernel), List.mem_of_getElem? (i := 1303) (by decide +kernel)⟩
theorem lw_p62 : lw_okq (⟨"MixfixBenchModel", "isUnder", "(II)Z"⟩, 72) := ⟨⟨by decide +kernel, by decide +kernel⟩, List.mem_of_getElem? (i := 956) (by decide +kernel), List.mem_of_getElem? (i := 1314) (by decide +kernel), List.mem_of_getElem? (i := 1315) (by decide +kernel)⟩
theorem lw_p63 : lw_okq (⟨"MixfixBenchModel", "countAll", "()V"⟩, 72) := ⟨⟨by decide +kernel, by decide +kernel⟩, List.mem_of_getElem? (i := 956) (by decide +kernel), List.mem_of_getElem? (i := 1322) (by decide +kernel), List.mem_of_getElem? (i := 1323) (by decide +kernel)⟩
def lw_privs_4 : List (MethodName × Nat) := [(⟨"MixfixBenchModel", "must", "(I)V"⟩, 72), (⟨"MixfixBenchModel", "is", "(I)Z"⟩, 72), (⟨"MixfixBenchModel", "readTighter", "()V"⟩, 72), (⟨"MixfixBenchModel", "aRank", "()I"⟩, 72), (⟨"MixfixBenchModel", "tight", "(II)Z"⟩, 72), (⟨"MixfixBenchModel", "readKind", "()V"⟩, 72), (⟨"MixfixBenchModel", "kindOf", "(J)I"⟩, 72), (⟨"MixfixBenchModel", "isWord", "(J)Z"⟩, 72), (⟨"MixfixBenchModel", "aKind", "()I"⟩, 72), (⟨"MixfixBenchModel", "readWord", "()V"⟩, 72), (⟨"MixfixBenchModel", "readElement", "(I)V"⟩, 72), (⟨"MixfixBenchModel", "ends", "(I)I"⟩, 72), (⟨"MixfixBenchModel", "readSteps", "(I)V"⟩, 72), (⟨"MixfixBenchModel", "isWordNumber", "(I)Z"⟩, 72), (⟨"MixfixBenchModel", "isUnder", "(II)Z"⟩, 72), (⟨"MixfixBenchModel", "countAll", "()V"⟩, 72)]
theorem lw_r4 : ∀ q ∈ lw_privs_4, lw_okq q := List.forall_mem_cons.mpr ⟨lw_p48, List.forall_mem_cons.mpr ⟨lw_p49, List.forall_mem_cons.mpr ⟨lw_p50, List.forall_mem_cons.mpr ⟨lw_p51, List.forall_mem_cons.mpr ⟨lw_p52, List.forall_mem_cons.mpr ⟨lw_p53, List.forall_mem_cons.mpr ⟨lw_p54, List.forall_mem_cons.mpr ⟨lw_p55, List.forall_mem_cons.mpr ⟨lw_p56, List.forall_mem_cons.mpr ⟨lw_p57, List.forall_mem_cons.mpr ⟨lw_p58, List.forall_mem_cons.mpr ⟨lw_p59, List.forall_mem_cons.mpr ⟨lw_p60, List.forall_mem_cons.mpr ⟨lw_p61, List.forall_mem_cons.mpr ⟨lw_p62, List.forall_mem_cons.mpr ⟨lw_p63, fun _ h => absurd h List.not_mem_nil⟩⟩⟩⟩⟩⟩⟩⟩⟩⟩⟩⟩⟩⟩⟩⟩
theorem lw_p64 : lw_okq (⟨"MixfixBenchModel", "wordWays", "(III)J"⟩, 72) := ⟨⟨by decide +kernel, by decide +kernel⟩, List.mem_of_getElem? (i := 956) (by decide +kernel), List.mem_of_getElem? (i := 1329) (by decide +kernel), List.mem_of_getElem? (i := 1330) (by decide +kernel)⟩
theorem lw_p65 : lw_okq (⟨"MixfixBenchModel", "kindWays", "(III)J"⟩, 72) := ⟨⟨by decide +kernel, by decide +kernel⟩, List.mem_of_getElem? (i := 956) (by decide +kernel), List.mem_of_getElem? (i := 1343) (by decide +kernel), List.mem_of_getElem? (i := 1344) (by decide +kernel)⟩
theorem lw_p66 : lw_okq (⟨"MixfixBenchModel", "isNumber", "(II)Z"⟩, 72) := ⟨⟨by decide +kernel, by decide +kernel⟩, List.mem_of_getElem? (i := 956) (by decide +kernel), List.mem_of_getElem? (i := 1347) (by decide +kernel), List.mem_of_getElem? (i := 1348) (by decide +kernel)⟩
theorem lw_p67 : lw_okq (⟨"MixfixBenchModel", "numberKind", "()I"⟩, 72) := ⟨⟨by decide +kernel, by decide +kernel⟩, List.mem_of_getElem? (i := 956) (by decide +kernel), List.mem_of_getElem? (i := 1351) (by decide +kernel), List.mem_of_getElem? (i := 1352) (by decide +kernel)⟩
theorem lw_p68 : lw_okq (⟨"MixfixBenchModel", "holeWays", "(IIII)J"⟩, 72) := ⟨⟨by decide +kernel, by decide +kernel⟩, List.mem_of_getElem? (i := 956) (by decide +kernel), List.mem_of_getElem? (i := 1355) (by decide +kernel), List.mem_of_getElem? (i := 1356) (by decide +kernel)⟩
theorem lw_p69 : lw_okq (⟨"MixfixBenchModel", "endOf", "(II)I"⟩, 72) := ⟨⟨by decide +kernel, by decide +kernel⟩, List.mem_of_getElem? (i := 956) (by decide +kernel), List.mem_of_getElem? (i := 1359) (by decide +kernel), List.mem_of_getElem? (i := 1360) (by decide +kernel)⟩
theorem lw_p70 : lw_okq (⟨"MixfixBenchModel", "letsRank", "(III)Z"⟩, 72) := ⟨⟨by decide +kernel, by decide +kernel⟩, List.mem_of_getElem? (i := 956) (by decide +kernel), List.mem_of_getElem? (i := 1363) (by decide +kernel), List.mem_of_getElem? (i := 1364) (by decide +kernel)⟩
theorem lw_p71 : lw_okq (⟨"MixfixBenchModel", "allWays", "(II)J"⟩, 72) := ⟨⟨by decide +kernel, by decide +kernel⟩, List.mem_of_getElem? (i := 956) (by decide +kernel), List.mem_of_getElem? (i := 1371) (by decide +kernel), List.mem_of_getElem? (i := 1372) (by decide +kernel)⟩
theorem lw_p72 : lw_okq (⟨"MixfixBenchModel", "pile", "(IIIIIJII)V"⟩, 72) := ⟨⟨by decide +kernel, by decide +kernel⟩, List.mem_of_getElem? (i := 956) (by decide +kernel), List.mem_of_getElem? (i := 1384) (by decide +kernel), List.mem_of_getElem? (i := 1385) (by decide +kernel)⟩
theorem lw_p73 : lw_okq (⟨"MixfixBenchModel", "open", "(I)V"⟩, 72) := ⟨⟨by decide +kernel, by decide +kernel⟩, List.mem_of_getElem? (i := 956) (by decide +kernel), List.mem_of_getElem? (i := 1388) (by decide +kernel), List.mem_of_getElem? (i := 1389) (by decide +kernel)⟩
theorem lw_p74 : lw_okq (⟨"MixfixBenchModel", "cut", "(IIIJI)V"⟩, 72) := ⟨⟨by decide +kernel, by decide +kernel⟩, List.mem_of_getElem? (i := 956) (by decide +kernel), List.mem_of_getElem? (i := 1392) (by decide +kernel), List.mem_of_getElem? (i := 1393) (by decide +kernel)⟩
theorem lw_p75 : lw_okq (⟨"MixfixBenchModel", "restWays", "(II)V"⟩, 72) := ⟨⟨by decide +kernel, by decide +kernel⟩, List.mem_of_getElem? (i := 956) (by decide +kernel), List.mem_of_getElem? (i := 1396) (by decide +kernel), List.mem_of_getElem? (i := 1397) (by decide +kernel)⟩
theorem lw_p76 : lw_okq (⟨"MixfixBenchModel", "behind", "(I)I"⟩, 72) := ⟨⟨by decide +kernel, by decide +kernel⟩, List.mem_of_getElem? (i := 956) (by decide +kernel), List.mem_of_getElem? (i := 1412) (by decide +kernel), List.mem_of_getElem? (i := 1413) (by decide +kernel)⟩
theorem lw_p77 : lw_okq (⟨"MixfixBenchModel", "isThrough", "(I)Z"⟩, 72) := ⟨⟨by decide +kernel, by decide +kernel⟩, List.mem_of_getElem? (i := 956) (by decide +kernel), List.mem_of_getElem? (i := 1416) (by decide +kernel), List.mem_of_getElem? (i := 1417) (by decide +kernel)⟩
theorem lw_p78 : lw_okq (⟨"MixfixBenchModel", "nextWithin", "(I)I"⟩, 72) := ⟨⟨by decide +kernel, by decide +kernel⟩, List.mem_of_getElem? (i := 956) (by decide +kernel), List.mem_of_getElem? (i := 1420) (by decide +kernel), List.mem_of_getElem? (i := 1421) (by decide +kernel)⟩
theorem lw_p79 : lw_okq (⟨"MixfixBenchModel", "value", "(I)I"⟩, 72) := ⟨⟨by decide +kernel, by decide +kernel⟩, List.mem_of_getElem? (i := 956) (by decide +kernel), List.mem_of_getElem? (i := 1424) (by decide +kernel), List.mem_of_getElem? (i := 1425) (by decide +kernel)⟩
def lw_privs_5 : List (MethodName × Nat) := [(⟨"MixfixBenchModel", "wordWays", "(III)J"⟩, 72), (⟨"MixfixBenchModel", "kindWays", "(III)J"⟩, 72), (⟨"MixfixBenchModel", "isNumber", "(II)Z"⟩, 72), (⟨"MixfixBenchModel", "numberKind", "()I"⟩, 72), (⟨"MixfixBenchModel", "holeWays", "(IIII)J"⟩, 72), (⟨"MixfixBenchModel", "endOf", "(II)I"⟩, 72), (⟨"MixfixBenchModel", "letsRank", "(III)Z"⟩, 72), (⟨"MixfixBenchModel", "allWays", "(II)J"⟩, 72), (⟨"MixfixBenchModel", "pile", "(IIIIIJII)V"⟩, 72), (⟨"MixfixBenchModel", "open", "(I)V"⟩, 72), (⟨"MixfixBenchModel", "cut", "(IIIJI)V"⟩, 72), (⟨"MixfixBenchModel", "restWays", "(II)V"⟩, 72), (⟨"MixfixBenchModel", "behind", "(I)I"⟩, 72), (⟨"MixfixBenchModel", "isThrough", "(I)Z"⟩, 72), (⟨"MixfixBenchModel", "nextWithin", "(I)I"⟩, 72), (⟨"MixfixBenchModel", "value", "(I)I"⟩, 72)]
theorem lw_r5 : ∀ q ∈ lw_privs_5, lw_okq q := List.forall_mem_cons.mpr ⟨lw_p64, List.forall_mem_cons.mpr ⟨lw_p65, List.forall_mem_cons.mpr ⟨lw_p66, List.forall_mem_cons.mpr ⟨lw_p67, List.forall_mem_cons.mpr ⟨lw_p68, List.forall_mem_cons.mpr ⟨lw_p69, List.forall_mem_cons.mpr ⟨lw_p70, List.forall_mem_cons.mpr ⟨lw_p71, List.forall_mem_cons.mpr ⟨lw_p72, List.forall_mem_cons.mpr ⟨lw_p73, List.forall_mem_cons.mpr ⟨lw_p74, List.forall_mem_cons.mpr ⟨lw_p75, List.forall_mem_cons.mpr ⟨lw_p76, List.forall_mem_cons.mpr ⟨lw_p77, List.forall_mem_cons.mpr ⟨lw_p78, List.forall_mem_cons.mpr ⟨lw_p79, fun _ h => absurd h List.not_mem_nil⟩⟩⟩⟩⟩⟩⟩⟩⟩⟩⟩⟩⟩⟩⟩⟩
theorem lw_p80 : lw_okq (⟨"MixfixBenchModel", "steps", "(II)I"⟩, 72) := ⟨⟨by decide +kernel, by decide +kernel⟩, List.mem_of_getElem? (i := 956) (by decide +kernel), List.mem_of_getElem? (i := 1428) (by decide +kernel), List.mem_of_getElem? (i := 1429) (by decide +kernel)⟩
theorem lw_p81 : lw_okq (⟨"MixfixBenchModel", "isAgainst", "(II)Z"⟩, 72) := ⟨⟨by decide +kernel, by decide +kernel⟩, List.mem_of_getElem? (i := 956) (by decide +kernel), List.mem_of_getElem? (i := 1440) (by decide +kernel), List.mem_of_getElem? (i := 1441) (by decide +kernel)⟩
def lw_privs_6 : List (MethodName × Nat) := [(⟨"MixfixBenchModel", "steps", "(II)I"⟩, 72), (⟨"MixfixBenchModel", "isAgainst", "(II)Z"⟩, 72)]
theorem lw_r6 : ∀ q ∈ lw_privs_6, lw_okq q := List.forall_mem_cons.mpr ⟨lw_p80, List.forall_mem_cons.mpr ⟨lw_p81, fun _ h => absurd h List.not_mem_nil⟩⟩
def lw_privs : List (MethodName × Nat) := lw_privs_1 ++ (lw_privs_2 ++ (lw_privs_3 ++ (lw_privs_4 ++ (lw_privs_5 ++ (lw_privs_6)))))
def lw_tbl : List Cond := k2_sels lw_privs ++ tables_1
theorem lw_privs_ok : ∀ q ∈ lw_privs, lw_okq q := by
  show ∀ q ∈ lw_privs_1 ++ (lw_privs_2 ++ (lw_privs_3 ++ (lw_privs_4 ++ (lw_privs_5 ++ (lw_privs_6))))), lw_okq q
  exact List.forall_mem_append.mpr ⟨lw_r1, List.forall_mem_append.mpr ⟨lw_r2, List.forall_mem_append.mpr ⟨lw_r3, List.forall_mem_append.mpr ⟨lw_r4, List.forall_mem_append.mpr ⟨lw_r5, lw_r6⟩⟩⟩⟩⟩
-- ===== end of PART A =====
def RX0 : String := "MixfixBench$Book"
def TX0 : u_T := fun k => match k with
  | 0 => ("MixfixBench$Book", "rankCount", "I", false)
  | 1 => ("MixfixBench$Book", "kindCount", "I", false)
  | 2 => ("MixfixBench$Book", "wordCount", "I", false)
  | 3 => ("MixfixBench$Book", "rankNames", "[J", true)
  | 4 => ("MixfixBench$Book", "looser", "[I", true)
  | 5 => ("MixfixBench$Book", "kindNames", "[J", true)
  | 6 => ("MixfixBench$Book", "above", "[I", true)
  | _ => ("MixfixBench$Book", "words", "[LMixfixBench$Word;", true)
def tyX0 : Nat → FieldType := fun k => match k with
  | 0 => .int
  | 1 => .int
  | 2 => .int
  | 3 => .array .long
  | 4 => .array .int
  | 5 => .array .long
  | 6 => .array .int
  | _ => .array (.object "MixfixBench$Word")
theorem nmX0 : ∀ a, a < 8 → ∀ b, b < 8 → a ≠ b → (TX0 a).2.1 ≠ (TX0 b).2.1 := by decide +kernel
theorem tyX0_ok : ∀ k, k < 8 → parseFieldDescriptor (TX0 k).2.2.1 = some (tyX0 k) := by decide +kernel
abbrev cX0_init : ByteArray := prog_2_method_1_code
def yX0_init : MethodName := ⟨RX0, "<init>", "()V"⟩
abbrev cX0_clear : ByteArray := prog_2_method_2_code
def yX0_clear : MethodName := ⟨RX0, "clear", "()V"⟩
abbrev cX0_hasRank : ByteArray := prog_2_method_3_code
def yX0_hasRank : MethodName := ⟨RX0, "hasRank", "(I)Z"⟩
abbrev cX0_hasKind : ByteArray := prog_2_method_4_code
def yX0_hasKind : MethodName := ⟨RX0, "hasKind", "(I)Z"⟩
abbrev cX0_hasWord : ByteArray := prog_2_method_5_code
def yX0_hasWord : MethodName := ⟨RX0, "hasWord", "(I)Z"⟩
abbrev cX0_rankNamed : ByteArray := prog_2_method_6_code
def yX0_rankNamed : MethodName := ⟨RX0, "rankNamed", "(J)I"⟩
abbrev cX0_kindNamed : ByteArray := prog_2_method_7_code
def yX0_kindNamed : MethodName := ⟨RX0, "kindNamed", "(J)I"⟩
abbrev cX0_indexOf : ByteArray := prog_2_method_8_code
def yX0_indexOf : MethodName := ⟨RX0, "indexOf", "([JIJ)I"⟩
abbrev cX0_addRank : ByteArray := prog_2_method_9_code
def yX0_addRank : MethodName := ⟨RX0, "addRank", "(J)V"⟩
abbrev cX0_addKind : ByteArray := prog_2_method_10_code
def yX0_addKind : MethodName := ⟨RX0, "addKind", "(JI)V"⟩
abbrev cX0_setTighter : ByteArray := prog_2_method_11_code
def yX0_setTighter : MethodName := ⟨RX0, "setTighter", "(II)V"⟩
abbrev cX0_isTighter : ByteArray := prog_2_method_12_code
def yX0_isTighter : MethodName := ⟨RX0, "isTighter", "(II)Z"⟩
abbrev cX0_isUnder : ByteArray := prog_2_method_13_code
def yX0_isUnder : MethodName := ⟨RX0, "isUnder", "(II)Z"⟩
abbrev cX0_numberKind : ByteArray := prog_2_method_14_code
def yX0_numberKind : MethodName := ⟨RX0, "numberKind", "()I"⟩
abbrev cX0_kindsUnder : ByteArray := prog_2_method_15_code
def yX0_kindsUnder : MethodName := ⟨RX0, "kindsUnder", "(I)I"⟩
abbrev cX0_wordsOfKinds : ByteArray := prog_2_method_16_code
def yX0_wordsOfKinds : MethodName := ⟨RX0, "wordsOfKinds", "(I)I"⟩
abbrev cX0_settleHoles : ByteArray := prog_2_method_17_code
def yX0_settleHoles : MethodName := ⟨RX0, "settleHoles", "()V"⟩
abbrev cX0_wordsFitting : ByteArray := prog_2_method_18_code
def yX0_wordsFitting : MethodName := ⟨RX0, "wordsFitting", "(LMixfixBench$Word;I)I"⟩
abbrev cX0_isAgainst : ByteArray := prog_2_method_19_code
def yX0_isAgainst : MethodName := ⟨RX0, "isAgainst", "(II)Z"⟩
abbrev cX0_hasPartTwice : ByteArray := prog_2_method_20_code
def yX0_hasPartTwice : MethodName := ⟨RX0, "hasPartTwice", "(LMixfixBench$Word;)Z"⟩
abbrev cX0_shareAPart : ByteArray := prog_2_method_21_code
def yX0_shareAPart : MethodName := ⟨RX0, "shareAPart", "(LMixfixBench$Word;LMixfixBench$Word;)Z"⟩
def RX1 : String := "MixfixBench$Chart"
def TX1 : u_T := fun k => match k with
  | 0 => ("MixfixBench$Chart", "book", "LMixfixBench$Book;", false)
  | 1 => ("MixfixBench$Chart", "sentence", "LMixfixBench$Sentence;", true)
  | 2 => ("MixfixBench$Chart", "filled", "Z", false)
  | 3 => ("MixfixBench$Chart", "ofKind", "[J", true)
  | 4 => ("MixfixBench$Chart", "ofWord", "[J", true)
  | 5 => ("MixfixBench$Chart", "ofAny", "[J", true)
  | 6 => ("MixfixBench$Chart", "ofHole", "[J", true)
  | _ => ("MixfixBench$Chart", "tails", "[J", true)
def tyX1 : Nat → FieldType := fun k => match k with
  | 0 => .object "MixfixBench$Book"
  | 1 => .object "MixfixBench$Sentence"
  | 2 => .boolean
  | 3 => .array .long
  | 4 => .array .long
  | 5 => .array .long
  | 6 => .array .long
  | _ => .array .long
theorem nmX1 : ∀ a, a < 8 → ∀ b, b < 8 → a ≠ b → (TX1 a).2.1 ≠ (TX1 b).2.1 := by decide +kernel
theorem tyX1_ok : ∀ k, k < 8 → parseFieldDescriptor (TX1 k).2.2.1 = some (tyX1 k) := by decide +kernel
abbrev cX1_init : ByteArray := prog_3_method_1_code
def yX1_init : MethodName := ⟨RX1, "<init>", "(LMixfixBench$Book;LMixfixBench$Sentence;)V"⟩
abbrev cX1_startOver : ByteArray := prog_3_method_2_code
def yX1_startOver : MethodName := ⟨RX1, "startOver", "(LMixfixBench$Book;)V"⟩
abbrev cX1_readingsOf : ByteArray := prog_3_method_3_code
def yX1_readingsOf : MethodName := ⟨RX1, "readingsOf", "(II)J"⟩
abbrev cX1_rowOf : ByteArray := prog_3_method_4_code
def yX1_rowOf : MethodName := ⟨RX1, "rowOf", "(II)I"⟩
abbrev cX1_tailOf : ByteArray := prog_3_method_5_code
def yX1_tailOf : MethodName := ⟨RX1, "tailOf", "(III)I"⟩
abbrev cX1_wordReadings : ByteArray := prog_3_method_6_code
def yX1_wordReadings : MethodName := ⟨RX1, "wordReadings", "(III)J"⟩
abbrev cX1_holeReadings : ByteArray := prog_3_method_7_code
def yX1_holeReadings : MethodName := ⟨RX1, "holeReadings", "(IIII)J"⟩
abbrev cX1_plainReadings : ByteArray := prog_3_method_8_code
def yX1_plainReadings : MethodName := ⟨RX1, "plainReadings", "(III)J"⟩
abbrev cX1_sumOfKinds : ByteArray := prog_3_method_9_code
def yX1_sumOfKinds : MethodName := ⟨RX1, "sumOfKinds", "(II)J"⟩
abbrev cX1_sumOfWords : ByteArray := prog_3_method_10_code
def yX1_sumOfWords : MethodName := ⟨RX1, "sumOfWords", "(II)J"⟩
abbrev cX1_fill : ByteArray := prog_3_method_11_code
def yX1_fill : MethodName := ⟨RX1, "fill", "()V"⟩
abbrev cX1_fillStretch : ByteArray := prog_3_method_12_code
def yX1_fillStretch : MethodName := ⟨RX1, "fillStretch", "(II)V"⟩
abbrev cX1_fillKinds : ByteArray := prog_3_method_13_code
def yX1_fillKinds : MethodName := ⟨RX1, "fillKinds", "(II)V"⟩
abbrev cX1_fillHoles : ByteArray := prog_3_method_14_code
def yX1_fillHoles : MethodName := ⟨RX1, "fillHoles", "(II)V"⟩
abbrev cX1_fillTails : ByteArray := prog_3_method_15_code
def yX1_fillTails : MethodName := ⟨RX1, "fillTails", "(III)V"⟩
abbrev cX1_prepareTails : ByteArray := prog_3_method_16_code
def yX1_prepareTails : MethodName := ⟨RX1, "prepareTails", "(III)V"⟩
abbrev cX1_ways : ByteArray := prog_3_method_17_code
def yX1_ways : MethodName := ⟨RX1, "ways", "(IIII)J"⟩
abbrev cX1_tail : ByteArray := prog_3_method_18_code
def yX1_tail : MethodName := ⟨RX1, "tail", "(IIII)J"⟩
def RX2 : String := "MixfixBench$Finder"
def TX2 : u_T := fun k => match k with
  | 0 => ("MixfixBench$Finder", "chart", "LMixfixBench$Chart;", true)
  | 1 => ("MixfixBench$Finder", "sentence", "LMixfixBench$Sentence;", true)
  | 2 => ("MixfixBench$Finder", "reading", "LMixfixBench$Reading;", true)
  | 3 => ("MixfixBench$Finder", "waiting", "I", false)
  | 4 => ("MixfixBench$Finder", "firsts", "[I", true)
  | 5 => ("MixfixBench$Finder", "ends", "[I", true)
  | 6 => ("MixfixBench$Finder", "parents", "[I", true)
  | 7 => ("MixfixBench$Finder", "holes", "[I", true)
  | 8 => ("MixfixBench$Finder", "words", "[I", true)
  | 9 => ("MixfixBench$Finder", "kinds", "[I", true)
  | 10 => ("MixfixBench$Finder", "numbers", "[J", true)
  | 11 => ("MixfixBench$Finder", "holeFirsts", "[I", true)
  | _ => ("MixfixBench$Finder", "holeEnds", "[I", true)
def tyX2 : Nat → FieldType := fun k => match k with
  | 0 => .object "MixfixBench$Chart"
  | 1 => .object "MixfixBench$Sentence"
  | 2 => .object "MixfixBench$Reading"
  | 3 => .int
  | 4 => .array .int
  | 5 => .array .int
  | 6 => .array .int
  | 7 => .array .int
  | 8 => .array .int
  | 9 => .array .int
  | 10 => .array .long
  | 11 => .array .int
  | _ => .array .int
theorem nmX2 : ∀ a, a < 13 → ∀ b, b < 13 → a ≠ b → (TX2 a).2.1 ≠ (TX2 b).2.1 := by decide +kernel
theorem tyX2_ok : ∀ k, k < 13 → parseFieldDescriptor (TX2 k).2.2.1 = some (tyX2 k) := by decide +kernel
abbrev cX2_init : ByteArray := prog_4_method_1_code
def yX2_init : MethodName := ⟨RX2, "<init>", "(LMixfixBench$Chart;LMixfixBench$Sentence;LMixfixBench$Reading;)V"⟩
abbrev cX2_find : ByteArray := prog_4_method_2_code
def yX2_find : MethodName := ⟨RX2, "find", "(J)V"⟩
abbrev cX2_await : ByteArray := prog_4_method_3_code
def yX2_await : MethodName := ⟨RX2, "await", "(IIII)V"⟩
abbrev cX2_demand : ByteArray := prog_4_method_4_code
def yX2_demand : MethodName := ⟨RX2, "demand", "(IIJ)V"⟩
abbrev cX2_makeNode : ByteArray := prog_4_method_5_code
def yX2_makeNode : MethodName := ⟨RX2, "makeNode", "()V"⟩
abbrev cX2_chooseWord : ByteArray := prog_4_method_6_code
def yX2_chooseWord : MethodName := ⟨RX2, "chooseWord", "(I)I"⟩
abbrev cX2_splitWord : ByteArray := prog_4_method_7_code
def yX2_splitWord : MethodName := ⟨RX2, "splitWord", "(IIIJ)J"⟩
abbrev cX2_fillWord : ByteArray := prog_4_method_8_code
def yX2_fillWord : MethodName := ⟨RX2, "fillWord", "(IIJ)V"⟩
def RX3 : String := "MixfixBench$Lexer"
def TX3 : u_T := fun k => match k with
  | 0 => ("MixfixBench$Lexer", "tape", "LMixfixBench$Tape;", true)
  | 1 => ("MixfixBench$Lexer", "at", "I", false)
  | 2 => ("MixfixBench$Lexer", "count", "I", false)
  | 3 => ("MixfixBench$Lexer", "sorts", "[I", true)
  | 4 => ("MixfixBench$Lexer", "places", "[I", true)
  | 5 => ("MixfixBench$Lexer", "contents", "[J", true)
  | _ => ("MixfixBench$Lexer", "current", "I", false)
def tyX3 : Nat → FieldType := fun k => match k with
  | 0 => .object "MixfixBench$Tape"
  | 1 => .int
  | 2 => .int
  | 3 => .array .int
  | 4 => .array .int
  | 5 => .array .long
  | _ => .int
theorem nmX3 : ∀ a, a < 7 → ∀ b, b < 7 → a ≠ b → (TX3 a).2.1 ≠ (TX3 b).2.1 := by decide +kernel
theorem tyX3_ok : ∀ k, k < 7 → parseFieldDescriptor (TX3 k).2.2.1 = some (tyX3 k) := by decide +kernel
abbrev cX3_init : ByteArray := prog_5_method_1_code
def yX3_init : MethodName := ⟨RX3, "<init>", "(LMixfixBench$Tape;)V"⟩
abbrev cX3_sort : ByteArray := prog_5_method_2_code
def yX3_sort : MethodName := ⟨RX3, "sort", "()I"⟩
abbrev cX3_place : ByteArray := prog_5_method_3_code
def yX3_place : MethodName := ⟨RX3, "place", "()I"⟩
abbrev cX3_content : ByteArray := prog_5_method_4_code
def yX3_content : MethodName := ⟨RX3, "content", "()J"⟩
abbrev cX3_isKeyword : ByteArray := prog_5_method_5_code
def yX3_isKeyword : MethodName := ⟨RX3, "isKeyword", "(J)Z"⟩
abbrev cX3_advance : ByteArray := prog_5_method_6_code
def yX3_advance : MethodName := ⟨RX3, "advance", "()V"⟩
abbrev cX3_start : ByteArray := prog_5_method_7_code
def yX3_start : MethodName := ⟨RX3, "start", "()V"⟩
abbrev cX3_takeToken : ByteArray := prog_5_method_8_code
def yX3_takeToken : MethodName := ⟨RX3, "takeToken", "(I)I"⟩
abbrev cX3_takeName : ByteArray := prog_5_method_9_code
def yX3_takeName : MethodName := ⟨RX3, "takeName", "()I"⟩
abbrev cX3_takeNumber : ByteArray := prog_5_method_10_code
def yX3_takeNumber : MethodName := ⟨RX3, "takeNumber", "()I"⟩
abbrev cX3_takePart : ByteArray := prog_5_method_11_code
def yX3_takePart : MethodName := ⟨RX3, "takePart", "()I"⟩
abbrev cX3_takeSign : ByteArray := prog_5_method_12_code
def yX3_takeSign : MethodName := ⟨RX3, "takeSign", "(I)I"⟩
abbrev cX3_isReserved : ByteArray := prog_5_method_13_code
def yX3_isReserved : MethodName := ⟨RX3, "isReserved", "(J)Z"⟩
abbrev cX3_isLetter : ByteArray := prog_5_method_14_code
def yX3_isLetter : MethodName := ⟨RX3, "isLetter", "(I)Z"⟩
abbrev cX3_isLetterOrDigit : ByteArray := prog_5_method_15_code
def yX3_isLetterOrDigit : MethodName := ⟨RX3, "isLetterOrDigit", "(I)Z"⟩
abbrev cX3_isPartByte : ByteArray := prog_5_method_16_code
def yX3_isPartByte : MethodName := ⟨RX3, "isPartByte", "(I)Z"⟩
abbrev cX3_isSign : ByteArray := prog_5_method_17_code
def yX3_isSign : MethodName := ⟨RX3, "isSign", "(I)Z"⟩
def RX4 : String := "MixfixBench$Parser"
def TX4 : u_T := fun k => match k with
  | 0 => ("MixfixBench$Parser", "lexer", "LMixfixBench$Lexer;", true)
  | 1 => ("MixfixBench$Parser", "book", "LMixfixBench$Book;", false)
  | 2 => ("MixfixBench$Parser", "fault", "I", false)
  | _ => ("MixfixBench$Parser", "faultPlace", "I", false)
def tyX4 : Nat → FieldType := fun k => match k with
  | 0 => .object "MixfixBench$Lexer"
  | 1 => .object "MixfixBench$Book"
  | 2 => .int
  | _ => .int
theorem nmX4 : ∀ a, a < 4 → ∀ b, b < 4 → a ≠ b → (TX4 a).2.1 ≠ (TX4 b).2.1 := by decide +kernel
theorem tyX4_ok : ∀ k, k < 4 → parseFieldDescriptor (TX4 k).2.2.1 = some (tyX4 k) := by decide +kernel
abbrev cX4_init : ByteArray := prog_6_method_1_code
def yX4_init : MethodName := ⟨RX4, "<init>", "(LMixfixBench$Tape;LMixfixBench$Book;)V"⟩
abbrev cX4_parse : ByteArray := prog_6_method_2_code
def yX4_parse : MethodName := ⟨RX4, "parse", "(LMixfixBench$Book;)Z"⟩
abbrev cX4_blame : ByteArray := prog_6_method_3_code
def yX4_blame : MethodName := ⟨RX4, "blame", "(II)V"⟩
abbrev cX4_refuse : ByteArray := prog_6_method_4_code
def yX4_refuse : MethodName := ⟨RX4, "refuse", "()V"⟩
abbrev cX4_pass : ByteArray := prog_6_method_5_code
def yX4_pass : MethodName := ⟨RX4, "pass", "(I)Z"⟩
abbrev cX4_parseRank : ByteArray := prog_6_method_6_code
def yX4_parseRank : MethodName := ⟨RX4, "parseRank", "()V"⟩
abbrev cX4_parseTighter : ByteArray := prog_6_method_7_code
def yX4_parseTighter : MethodName := ⟨RX4, "parseTighter", "()V"⟩
abbrev cX4_parseKind : ByteArray := prog_6_method_8_code
def yX4_parseKind : MethodName := ⟨RX4, "parseKind", "()V"⟩
abbrev cX4_passRank : ByteArray := prog_6_method_9_code
def yX4_passRank : MethodName := ⟨RX4, "passRank", "()I"⟩
abbrev cX4_passKind : ByteArray := prog_6_method_10_code
def yX4_passKind : MethodName := ⟨RX4, "passKind", "()I"⟩
abbrev cX4_passName : ByteArray := prog_6_method_11_code
def yX4_passName : MethodName := ⟨RX4, "passName", "(I)I"⟩
abbrev cX4_parseWord : ByteArray := prog_6_method_12_code
def yX4_parseWord : MethodName := ⟨RX4, "parseWord", "()V"⟩
abbrev cX4_parseLean : ByteArray := prog_6_method_13_code
def yX4_parseLean : MethodName := ⟨RX4, "parseLean", "(LMixfixBench$Word;)V"⟩
abbrev cX4_parseElements : ByteArray := prog_6_method_14_code
def yX4_parseElements : MethodName := ⟨RX4, "parseElements", "(LMixfixBench$Word;)Z"⟩
abbrev cX4_parseSteps : ByteArray := prog_6_method_15_code
def yX4_parseSteps : MethodName := ⟨RX4, "parseSteps", "(LMixfixBench$Word;)Z"⟩
abbrev cX4_parseStep : ByteArray := prog_6_method_16_code
def yX4_parseStep : MethodName := ⟨RX4, "parseStep", "(LMixfixBench$Word;I)I"⟩
abbrev cX4_isNumber : ByteArray := prog_6_method_17_code
def yX4_isNumber : MethodName := ⟨RX4, "isNumber", "()Z"⟩
abbrev cX4_isOperation : ByteArray := prog_6_method_18_code
def yX4_isOperation : MethodName := ⟨RX4, "isOperation", "(I)Z"⟩
def RX5 : String := "MixfixBench$Reading"
def TX5 : u_T := fun k => match k with
  | 0 => ("MixfixBench$Reading", "count", "I", false)
  | 1 => ("MixfixBench$Reading", "word", "[I", true)
  | 2 => ("MixfixBench$Reading", "first", "[I", true)
  | 3 => ("MixfixBench$Reading", "length", "[I", true)
  | 4 => ("MixfixBench$Reading", "parent", "[I", true)
  | 5 => ("MixfixBench$Reading", "hole", "[I", true)
  | _ => ("MixfixBench$Reading", "children", "[I", true)
def tyX5 : Nat → FieldType := fun k => match k with
  | 0 => .int
  | 1 => .array .int
  | 2 => .array .int
  | 3 => .array .int
  | 4 => .array .int
  | 5 => .array .int
  | _ => .array .int
theorem nmX5 : ∀ a, a < 7 → ∀ b, b < 7 → a ≠ b → (TX5 a).2.1 ≠ (TX5 b).2.1 := by decide +kernel
theorem tyX5_ok : ∀ k, k < 7 → parseFieldDescriptor (TX5 k).2.2.1 = some (tyX5 k) := by decide +kernel
abbrev cX5_init : ByteArray := prog_7_method_1_code
def yX5_init : MethodName := ⟨RX5, "<init>", "()V"⟩
abbrev cX5_clear : ByteArray := prog_7_method_2_code
def yX5_clear : MethodName := ⟨RX5, "clear", "()V"⟩
abbrev cX5_add : ByteArray := prog_7_method_3_code
def yX5_add : MethodName := ⟨RX5, "add", "(IIIII)I"⟩
abbrev cX5_childOf : ByteArray := prog_7_method_4_code
def yX5_childOf : MethodName := ⟨RX5, "childOf", "(II)I"⟩
def RX6 : String := "MixfixBench$Sentence"
def TX6 : u_T := fun k => match k with
  | 0 => ("MixfixBench$Sentence", "count", "I", false)
  | 1 => ("MixfixBench$Sentence", "texts", "[J", true)
  | _ => ("MixfixBench$Sentence", "draft", "[J", true)
def tyX6 : Nat → FieldType := fun k => match k with
  | 0 => .int
  | 1 => .array .long
  | _ => .array .long
theorem nmX6 : ∀ a, a < 3 → ∀ b, b < 3 → a ≠ b → (TX6 a).2.1 ≠ (TX6 b).2.1 := by decide +kernel
theorem tyX6_ok : ∀ k, k < 3 → parseFieldDescriptor (TX6 k).2.2.1 = some (tyX6 k) := by decide +kernel
abbrev cX6_init : ByteArray := prog_8_method_1_code
def yX6_init : MethodName := ⟨RX6, "<init>", "()V"⟩
abbrev cX6_readFrom : ByteArray := prog_8_method_2_code
def yX6_readFrom : MethodName := ⟨RX6, "readFrom", "(LMixfixBench$Tape;)Z"⟩
abbrev cX6_isNumber : ByteArray := prog_8_method_3_code
def yX6_isNumber : MethodName := ⟨RX6, "isNumber", "(I)Z"⟩
abbrev cX6_numberAt : ByteArray := prog_8_method_4_code
def yX6_numberAt : MethodName := ⟨RX6, "numberAt", "(I)I"⟩
abbrev cX6_isBracketed : ByteArray := prog_8_method_5_code
def yX6_isBracketed : MethodName := ⟨RX6, "isBracketed", "(II)Z"⟩
def RX7 : String := "MixfixBench$Tape"
def TX7 : u_T := fun k => match k with
  | 0 => ("MixfixBench$Tape", "bytes", "[B", true)
  | _ => ("MixfixBench$Tape", "length", "I", false)
def tyX7 : Nat → FieldType := fun k => match k with
  | 0 => .array .byte
  | _ => .int
theorem nmX7 : ∀ a, a < 2 → ∀ b, b < 2 → a ≠ b → (TX7 a).2.1 ≠ (TX7 b).2.1 := by decide +kernel
theorem tyX7_ok : ∀ k, k < 2 → parseFieldDescriptor (TX7 k).2.2.1 = some (tyX7 k) := by decide +kernel
abbrev cX7_init : ByteArray := prog_9_method_1_code
def yX7_init : MethodName := ⟨RX7, "<init>", "()V"⟩
abbrev cX7_append : ByteArray := prog_9_method_2_code
def yX7_append : MethodName := ⟨RX7, "append", "(I)V"⟩
abbrev cX7_byteAt : ByteArray := prog_9_method_3_code
def yX7_byteAt : MethodName := ⟨RX7, "byteAt", "(I)I"⟩
def RX8 : String := "MixfixBench$Word"
def TX8 : u_T := fun k => match k with
  | 0 => ("MixfixBench$Word", "rank", "I", false)
  | 1 => ("MixfixBench$Word", "lean", "I", false)
  | 2 => ("MixfixBench$Word", "kind", "I", false)
  | 3 => ("MixfixBench$Word", "size", "I", false)
  | 4 => ("MixfixBench$Word", "holes", "I", false)
  | 5 => ("MixfixBench$Word", "steps", "I", false)
  | 6 => ("MixfixBench$Word", "bound", "Z", false)
  | 7 => ("MixfixBench$Word", "value", "I", false)
  | 8 => ("MixfixBench$Word", "parts", "[J", true)
  | 9 => ("MixfixBench$Word", "holeAt", "[I", true)
  | 10 => ("MixfixBench$Word", "holeKinds", "[I", true)
  | 11 => ("MixfixBench$Word", "takenWords", "[I", true)
  | 12 => ("MixfixBench$Word", "takenKinds", "[I", true)
  | 13 => ("MixfixBench$Word", "stepSigns", "[I", true)
  | _ => ("MixfixBench$Word", "stepValues", "[I", true)
def tyX8 : Nat → FieldType := fun k => match k with
  | 0 => .int
  | 1 => .int
  | 2 => .int
  | 3 => .int
  | 4 => .int
  | 5 => .int
  | 6 => .boolean
  | 7 => .int
  | 8 => .array .long
  | 9 => .array .int
  | 10 => .array .int
  | 11 => .array .int
  | 12 => .array .int
  | 13 => .array .int
  | _ => .array .int
theorem nmX8 : ∀ a, a < 15 → ∀ b, b < 15 → a ≠ b → (TX8 a).2.1 ≠ (TX8 b).2.1 := by decide +kernel
theorem tyX8_ok : ∀ k, k < 15 → parseFieldDescriptor (TX8 k).2.2.1 = some (tyX8 k) := by decide +kernel
abbrev cX8_init : ByteArray := prog_10_method_1_code
def yX8_init : MethodName := ⟨RX8, "<init>", "()V"⟩
abbrev cX8_clear : ByteArray := prog_10_method_2_code
def yX8_clear : MethodName := ⟨RX8, "clear", "(I)V"⟩
abbrev cX8_addPart : ByteArray := prog_10_method_3_code
def yX8_addPart : MethodName := ⟨RX8, "addPart", "(J)V"⟩
abbrev cX8_mayTakeHole : ByteArray := prog_10_method_4_code
def yX8_mayTakeHole : MethodName := ⟨RX8, "mayTakeHole", "()Z"⟩
abbrev cX8_addHole : ByteArray := prog_10_method_5_code
def yX8_addHole : MethodName := ⟨RX8, "addHole", "(I)V"⟩
abbrev cX8_addStep : ByteArray := prog_10_method_6_code
def yX8_addStep : MethodName := ⟨RX8, "addStep", "(II)V"⟩
abbrev cX8_isHole : ByteArray := prog_10_method_7_code
def yX8_isHole : MethodName := ⟨RX8, "isHole", "(I)Z"⟩
abbrev cX8_ends : ByteArray := prog_10_method_8_code
def yX8_ends : MethodName := ⟨RX8, "ends", "()I"⟩
abbrev cX8_isClosed : ByteArray := prog_10_method_9_code
def yX8_isClosed : MethodName := ⟨RX8, "isClosed", "()Z"⟩
abbrev cX8_hasPart : ByteArray := prog_10_method_10_code
def yX8_hasPart : MethodName := ⟨RX8, "hasPart", "(J)Z"⟩
def RX9 : String := "MixfixBench$Worker"
def TX9 : u_T := fun k => match k with
  | 0 => ("MixfixBench$Worker", "sentence", "LMixfixBench$Sentence;", true)
  | 1 => ("MixfixBench$Worker", "reading", "LMixfixBench$Reading;", true)
  | 2 => ("MixfixBench$Worker", "result", "I", false)
  | 3 => ("MixfixBench$Worker", "endedAt", "I", false)
  | 4 => ("MixfixBench$Worker", "values", "[I", true)
  | 5 => ("MixfixBench$Worker", "pile", "[I", true)
  | _ => ("MixfixBench$Worker", "height", "I", false)
def tyX9 : Nat → FieldType := fun k => match k with
  | 0 => .object "MixfixBench$Sentence"
  | 1 => .object "MixfixBench$Reading"
  | 2 => .int
  | 3 => .int
  | 4 => .array .int
  | 5 => .array .int
  | _ => .int
theorem nmX9 : ∀ a, a < 7 → ∀ b, b < 7 → a ≠ b → (TX9 a).2.1 ≠ (TX9 b).2.1 := by decide +kernel
theorem tyX9_ok : ∀ k, k < 7 → parseFieldDescriptor (TX9 k).2.2.1 = some (tyX9 k) := by decide +kernel
abbrev cX9_init : ByteArray := prog_11_method_1_code
def yX9_init : MethodName := ⟨RX9, "<init>", "(LMixfixBench$Sentence;LMixfixBench$Reading;)V"⟩
abbrev cX9_forget : ByteArray := prog_11_method_2_code
def yX9_forget : MethodName := ⟨RX9, "forget", "()V"⟩
abbrev cX9_run : ByteArray := prog_11_method_3_code
def yX9_run : MethodName := ⟨RX9, "run", "(LMixfixBench$Book;)I"⟩
abbrev cX9_workNode : ByteArray := prog_11_method_4_code
def yX9_workNode : MethodName := ⟨RX9, "workNode", "(LMixfixBench$Book;I)I"⟩
abbrev cX9_runSteps : ByteArray := prog_11_method_5_code
def yX9_runSteps : MethodName := ⟨RX9, "runSteps", "(LMixfixBench$Word;I)Z"⟩
abbrev cX9_push : ByteArray := prog_11_method_6_code
def yX9_push : MethodName := ⟨RX9, "push", "(I)V"⟩
abbrev cX9_operate : ByteArray := prog_11_method_7_code
def yX9_operate : MethodName := ⟨RX9, "operate", "(I)Z"⟩
abbrev cX9_outcome : ByteArray := prog_11_method_8_code
def yX9_outcome : MethodName := ⟨RX9, "outcome", "(III)I"⟩
def RX10 : String := "MixfixBench"
def TX10 : u_T := fun k => match k with
  | 0 => ("MixfixBench", "tape", "LMixfixBench$Tape;", true)
  | 1 => ("MixfixBench", "inUse", "LMixfixBench$Book;", false)
  | 2 => ("MixfixBench", "spare", "LMixfixBench$Book;", false)
  | 3 => ("MixfixBench", "parser", "LMixfixBench$Parser;", true)
  | 4 => ("MixfixBench", "tokens", "LMixfixBench$Sentence;", true)
  | 5 => ("MixfixBench", "reading", "LMixfixBench$Reading;", true)
  | 6 => ("MixfixBench", "chart", "LMixfixBench$Chart;", true)
  | 7 => ("MixfixBench", "finder", "LMixfixBench$Finder;", true)
  | _ => ("MixfixBench", "worker", "LMixfixBench$Worker;", true)
def tyX10 : Nat → FieldType := fun k => match k with
  | 0 => .object "MixfixBench$Tape"
  | 1 => .object "MixfixBench$Book"
  | 2 => .object "MixfixBench$Book"
  | 3 => .object "MixfixBench$Parser"
  | 4 => .object "MixfixBench$Sentence"
  | 5 => .object "MixfixBench$Reading"
  | 6 => .object "MixfixBench$Chart"
  | 7 => .object "MixfixBench$Finder"
  | _ => .object "MixfixBench$Worker"
theorem nmX10 : ∀ a, a < 9 → ∀ b, b < 9 → a ≠ b → (TX10 a).2.1 ≠ (TX10 b).2.1 := by decide +kernel
theorem tyX10_ok : ∀ k, k < 9 → parseFieldDescriptor (TX10 k).2.2.1 = some (tyX10 k) := by decide +kernel
abbrev cX10_init : ByteArray := prog_1_method_1_code
def yX10_init : MethodName := ⟨RX10, "<init>", "()V"⟩
abbrev cX10_feed : ByteArray := prog_1_method_2_code
def yX10_feed : MethodName := ⟨RX10, "feed", "(IIIII)I"⟩
abbrev cX10_end : ByteArray := prog_1_method_3_code
def yX10_end : MethodName := ⟨RX10, "end", "(I)I"⟩
abbrev cX10_book : ByteArray := prog_1_method_4_code
def yX10_book : MethodName := ⟨RX10, "book", "()I"⟩
abbrev cX10_fault : ByteArray := prog_1_method_5_code
def yX10_fault : MethodName := ⟨RX10, "fault", "(I)I"⟩
abbrev cX10_about : ByteArray := prog_1_method_6_code
def yX10_about : MethodName := ⟨RX10, "about", "(I)I"⟩
abbrev cX10_word : ByteArray := prog_1_method_7_code
def yX10_word : MethodName := ⟨RX10, "word", "(II)I"⟩
abbrev cX10_tighter : ByteArray := prog_1_method_8_code
def yX10_tighter : MethodName := ⟨RX10, "tighter", "(II)I"⟩
abbrev cX10_under : ByteArray := prog_1_method_9_code
def yX10_under : MethodName := ⟨RX10, "under", "(II)I"⟩
abbrev cX10_sentence : ByteArray := prog_1_method_10_code
def yX10_sentence : MethodName := ⟨RX10, "sentence", "()I"⟩
abbrev cX10_count : ByteArray := prog_1_method_11_code
def yX10_count : MethodName := ⟨RX10, "count", "(II)J"⟩
abbrev cX10_quarrel : ByteArray := prog_1_method_12_code
def yX10_quarrel : MethodName := ⟨RX10, "quarrel", "()I"⟩
abbrev cX10_read : ByteArray := prog_1_method_13_code
def yX10_read : MethodName := ⟨RX10, "read", "(J)I"⟩
abbrev cX10_node : ByteArray := prog_1_method_14_code
def yX10_node : MethodName := ⟨RX10, "node", "(II)I"⟩
abbrev cX10_bind : ByteArray := prog_1_method_15_code
def yX10_bind : MethodName := ⟨RX10, "bind", "(II)Z"⟩
abbrev cX10_work : ByteArray := prog_1_method_16_code
def yX10_work : MethodName := ⟨RX10, "work", "()I"⟩
abbrev cX10_worked : ByteArray := prog_1_method_17_code
def yX10_worked : MethodName := ⟨RX10, "worked", "(I)I"⟩
abbrev cX10_sure : ByteArray := prog_1_method_18_code
def yX10_sure : MethodName := ⟨RX10, "sure", "()I"⟩
abbrev cX10_dropReading : ByteArray := prog_1_method_19_code
def yX10_dropReading : MethodName := ⟨RX10, "dropReading", "()V"⟩
abbrev cX10_hasBit : ByteArray := prog_1_method_20_code
def yX10_hasBit : MethodName := ⟨RX10, "hasBit", "(II)Z"⟩
abbrev cX10_isDigit : ByteArray := prog_1_method_21_code
def yX10_isDigit : MethodName := ⟨RX10, "isDigit", "(I)Z"⟩
abbrev cX10_isBlank : ByteArray := prog_1_method_22_code
def yX10_isBlank : MethodName := ⟨RX10, "isBlank", "(I)Z"⟩
abbrev cX10_plus : ByteArray := prog_1_method_23_code
def yX10_plus : MethodName := ⟨RX10, "plus", "(JJ)J"⟩
abbrev cX10_times : ByteArray := prog_1_method_24_code
def yX10_times : MethodName := ⟨RX10, "times", "(JJ)J"⟩
def RX11 : String := "MixfixBenchModel"
def TX11 : u_T := fun k => match k with
  | 0 => ("MixfixBenchModel", "tape", "[B", true)
  | 1 => ("MixfixBenchModel", "taped", "I", false)
  | 2 => ("MixfixBenchModel", "text", "[B", true)
  | 3 => ("MixfixBenchModel", "size", "I", false)
  | 4 => ("MixfixBenchModel", "bank", "I", false)
  | 5 => ("MixfixBenchModel", "faultKind", "I", false)
  | 6 => ("MixfixBenchModel", "faultPlace", "I", false)
  | 7 => ("MixfixBenchModel", "at", "I", false)
  | 8 => ("MixfixBenchModel", "end", "I", false)
  | 9 => ("MixfixBenchModel", "token", "I", false)
  | 10 => ("MixfixBenchModel", "number", "I", false)
  | 11 => ("MixfixBenchModel", "digits", "I", false)
  | 12 => ("MixfixBenchModel", "name", "J", false)
  | 13 => ("MixfixBenchModel", "rName", "[J", true)
  | 14 => ("MixfixBenchModel", "kName", "[J", true)
  | 15 => ("MixfixBenchModel", "isTighter", "[Z", true)
  | 16 => ("MixfixBenchModel", "kUp", "[I", true)
  | 17 => ("MixfixBenchModel", "wRank", "[I", true)
  | 18 => ("MixfixBenchModel", "wLean", "[I", true)
  | 19 => ("MixfixBenchModel", "wKind", "[I", true)
  | 20 => ("MixfixBenchModel", "wMany", "[I", true)
  | 21 => ("MixfixBenchModel", "wHoles", "[I", true)
  | 22 => ("MixfixBenchModel", "wSteps", "[I", true)
  | 23 => ("MixfixBenchModel", "sOp", "[I", true)
  | 24 => ("MixfixBenchModel", "sNumber", "[I", true)
  | 25 => ("MixfixBenchModel", "ePart", "[J", true)
  | 26 => ("MixfixBenchModel", "eHole", "[I", true)
  | 27 => ("MixfixBenchModel", "hKind", "[I", true)
  | 28 => ("MixfixBenchModel", "ranks", "I", false)
  | 29 => ("MixfixBenchModel", "kinds", "I", false)
  | 30 => ("MixfixBenchModel", "words", "I", false)
  | 31 => ("MixfixBenchModel", "bRanks", "I", false)
  | 32 => ("MixfixBenchModel", "bKinds", "I", false)
  | 33 => ("MixfixBenchModel", "bWords", "I", false)
  | 34 => ("MixfixBenchModel", "tName", "[J", true)
  | 35 => ("MixfixBenchModel", "newName", "[J", true)
  | 36 => ("MixfixBenchModel", "tNumber", "[I", true)
  | 37 => ("MixfixBenchModel", "newNumber", "[I", true)
  | 38 => ("MixfixBenchModel", "tokens", "I", false)
  | 39 => ("MixfixBenchModel", "ofWord", "[J", true)
  | 40 => ("MixfixBenchModel", "ofBrackets", "[J", true)
  | 41 => ("MixfixBenchModel", "ofHole", "[J", true)
  | 42 => ("MixfixBenchModel", "rowNow", "[J", true)
  | 43 => ("MixfixBenchModel", "rowNext", "[J", true)
  | 44 => ("MixfixBenchModel", "nWord", "[I", true)
  | 45 => ("MixfixBenchModel", "nFirst", "[I", true)
  | 46 => ("MixfixBenchModel", "nMany", "[I", true)
  | 47 => ("MixfixBenchModel", "nUp", "[I", true)
  | 48 => ("MixfixBenchModel", "nHole", "[I", true)
  | 49 => ("MixfixBenchModel", "nodes", "I", false)
  | 50 => ("MixfixBenchModel", "pFrom", "[I", true)
  | 51 => ("MixfixBenchModel", "pTo", "[I", true)
  | 52 => ("MixfixBenchModel", "pNeed", "[I", true)
  | 53 => ("MixfixBenchModel", "pOf", "[I", true)
  | 54 => ("MixfixBenchModel", "pEnd", "[I", true)
  | 55 => ("MixfixBenchModel", "pUp", "[I", true)
  | 56 => ("MixfixBenchModel", "pHole", "[I", true)
  | 57 => ("MixfixBenchModel", "pK", "[J", true)
  | 58 => ("MixfixBenchModel", "piled", "I", false)
  | 59 => ("MixfixBenchModel", "cFrom", "[I", true)
  | 60 => ("MixfixBenchModel", "cTo", "[I", true)
  | 61 => ("MixfixBenchModel", "cWays", "[J", true)
  | 62 => ("MixfixBenchModel", "rest", "[J", true)
  | 63 => ("MixfixBenchModel", "isBound", "[Z", true)
  | 64 => ("MixfixBenchModel", "bound", "[I", true)
  | 65 => ("MixfixBenchModel", "nValue", "[I", true)
  | 66 => ("MixfixBenchModel", "numbers", "[I", true)
  | 67 => ("MixfixBenchModel", "holes", "[I", true)
  | 68 => ("MixfixBenchModel", "isWorked", "Z", false)
  | 69 => ("MixfixBenchModel", "workedAt", "I", false)
  | 70 => ("MixfixBenchModel", "worked", "I", false)
  | _ => ("MixfixBenchModel", "through", "[Z", true)
def tyX11 : Nat → FieldType := fun k => match k with
  | 0 => .array .byte
  | 1 => .int
  | 2 => .array .byte
  | 3 => .int
  | 4 => .int
  | 5 => .int
  | 6 => .int
  | 7 => .int
  | 8 => .int
  | 9 => .int
  | 10 => .int
  | 11 => .int
  | 12 => .long
  | 13 => .array .long
  | 14 => .array .long
  | 15 => .array .boolean
  | 16 => .array .int
  | 17 => .array .int
  | 18 => .array .int
  | 19 => .array .int
  | 20 => .array .int
  | 21 => .array .int
  | 22 => .array .int
  | 23 => .array .int
  | 24 => .array .int
  | 25 => .array .long
  | 26 => .array .int
  | 27 => .array .int
  | 28 => .int
  | 29 => .int
  | 30 => .int
  | 31 => .int
  | 32 => .int
  | 33 => .int
  | 34 => .array .long
  | 35 => .array .long
  | 36 => .array .int
  | 37 => .array .int
  | 38 => .int
  | 39 => .array .long
  | 40 => .array .long
  | 41 => .array .long
  | 42 => .array .long
  | 43 => .array .long
  | 44 => .array .int
  | 45 => .array .int
  | 46 => .array .int
  | 47 => .array .int
  | 48 => .array .int
  | 49 => .int
  | 50 => .array .int
  | 51 => .array .int
  | 52 => .array .int
  | 53 => .array .int
  | 54 => .array .int
  | 55 => .array .int
  | 56 => .array .int
  | 57 => .array .long
  | 58 => .int
  | 59 => .array .int
  | 60 => .array .int
  | 61 => .array .long
  | 62 => .array .long
  | 63 => .array .boolean
  | 64 => .array .int
  | 65 => .array .int
  | 66 => .array .int
  | 67 => .array .int
  | 68 => .boolean
  | 69 => .int
  | 70 => .int
  | _ => .array .boolean
theorem nmX11 : ∀ a, a < 72 → ∀ b, b < 72 → a ≠ b → (TX11 a).2.1 ≠ (TX11 b).2.1 := by decide +kernel
theorem tyX11_ok : ∀ k, k < 72 → parseFieldDescriptor (TX11 k).2.2.1 = some (tyX11 k) := by decide +kernel
abbrev cX11_sign : ByteArray := prog_13_method_1_code
def yX11_sign : MethodName := ⟨RX11, "sign", "(I)I"⟩
abbrev cX11_isLetter : ByteArray := prog_13_method_2_code
def yX11_isLetter : MethodName := ⟨RX11, "isLetter", "(I)Z"⟩
abbrev cX11_isDigit : ByteArray := prog_13_method_3_code
def yX11_isDigit : MethodName := ⟨RX11, "isDigit", "(I)Z"⟩
abbrev cX11_fails : ByteArray := prog_13_method_4_code
def yX11_fails : MethodName := ⟨RX11, "fails", "(II)V"⟩
abbrev cX11_isGood : ByteArray := prog_13_method_5_code
def yX11_isGood : MethodName := ⟨RX11, "isGood", "()Z"⟩
abbrev cX11_next : ByteArray := prog_13_method_6_code
def yX11_next : MethodName := ⟨RX11, "next", "()V"⟩
abbrev cX11_pack : ByteArray := prog_13_method_7_code
def yX11_pack : MethodName := ⟨RX11, "pack", "(II)V"⟩
abbrev cX11_nextPart : ByteArray := prog_13_method_8_code
def yX11_nextPart : MethodName := ⟨RX11, "nextPart", "()V"⟩
abbrev cX11_isPartSign : ByteArray := prog_13_method_9_code
def yX11_isPartSign : MethodName := ⟨RX11, "isPartSign", "(I)Z"⟩
abbrev cX11_is : ByteArray := prog_13_method_10_code
def yX11_is : MethodName := ⟨RX11, "is", "(I)Z"⟩
abbrev cX11_isWord : ByteArray := prog_13_method_11_code
def yX11_isWord : MethodName := ⟨RX11, "isWord", "(J)Z"⟩
abbrev cX11_wrong : ByteArray := prog_13_method_12_code
def yX11_wrong : MethodName := ⟨RX11, "wrong", "()V"⟩
abbrev cX11_must : ByteArray := prog_13_method_13_code
def yX11_must : MethodName := ⟨RX11, "must", "(I)V"⟩
abbrev cX11_rankOf : ByteArray := prog_13_method_14_code
def yX11_rankOf : MethodName := ⟨RX11, "rankOf", "(J)I"⟩
abbrev cX11_kindOf : ByteArray := prog_13_method_15_code
def yX11_kindOf : MethodName := ⟨RX11, "kindOf", "(J)I"⟩
abbrev cX11_aRank : ByteArray := prog_13_method_16_code
def yX11_aRank : MethodName := ⟨RX11, "aRank", "()I"⟩
abbrev cX11_aKind : ByteArray := prog_13_method_17_code
def yX11_aKind : MethodName := ⟨RX11, "aKind", "()I"⟩
abbrev cX11_readRank : ByteArray := prog_13_method_18_code
def yX11_readRank : MethodName := ⟨RX11, "readRank", "()V"⟩
abbrev cX11_tight : ByteArray := prog_13_method_19_code
def yX11_tight : MethodName := ⟨RX11, "tight", "(II)Z"⟩
abbrev cX11_readTighter : ByteArray := prog_13_method_20_code
def yX11_readTighter : MethodName := ⟨RX11, "readTighter", "()V"⟩
abbrev cX11_readKind : ByteArray := prog_13_method_21_code
def yX11_readKind : MethodName := ⟨RX11, "readKind", "()V"⟩
abbrev cX11_readWord : ByteArray := prog_13_method_22_code
def yX11_readWord : MethodName := ⟨RX11, "readWord", "()V"⟩
abbrev cX11_readElement : ByteArray := prog_13_method_23_code
def yX11_readElement : MethodName := ⟨RX11, "readElement", "(I)V"⟩
abbrev cX11_readSteps : ByteArray := prog_13_method_24_code
def yX11_readSteps : MethodName := ⟨RX11, "readSteps", "(I)V"⟩
abbrev cX11_ends : ByteArray := prog_13_method_25_code
def yX11_ends : MethodName := ⟨RX11, "ends", "(I)I"⟩
abbrev cX11_init : ByteArray := prog_13_method_26_code
def yX11_init : MethodName := ⟨RX11, "<init>", "()V"⟩
abbrev cX11_book : ByteArray := prog_13_method_27_code
def yX11_book : MethodName := ⟨RX11, "book", "()I"⟩
abbrev cX11_fault : ByteArray := prog_13_method_28_code
def yX11_fault : MethodName := ⟨RX11, "fault", "(I)I"⟩
abbrev cX11_about : ByteArray := prog_13_method_29_code
def yX11_about : MethodName := ⟨RX11, "about", "(I)I"⟩
abbrev cX11_isWordNumber : ByteArray := prog_13_method_30_code
def yX11_isWordNumber : MethodName := ⟨RX11, "isWordNumber", "(I)Z"⟩
abbrev cX11_word : ByteArray := prog_13_method_31_code
def yX11_word : MethodName := ⟨RX11, "word", "(II)I"⟩
abbrev cX11_tighter : ByteArray := prog_13_method_32_code
def yX11_tighter : MethodName := ⟨RX11, "tighter", "(II)I"⟩
abbrev cX11_isUnder : ByteArray := prog_13_method_33_code
def yX11_isUnder : MethodName := ⟨RX11, "isUnder", "(II)Z"⟩
abbrev cX11_under : ByteArray := prog_13_method_34_code
def yX11_under : MethodName := ⟨RX11, "under", "(II)I"⟩
abbrev cX11_sentence : ByteArray := prog_13_method_35_code
def yX11_sentence : MethodName := ⟨RX11, "sentence", "()I"⟩
abbrev cX11_sum : ByteArray := prog_13_method_36_code
def yX11_sum : MethodName := ⟨RX11, "sum", "(JJ)J"⟩
abbrev cX11_product : ByteArray := prog_13_method_37_code
def yX11_product : MethodName := ⟨RX11, "product", "(JJ)J"⟩
abbrev cX11_stretch : ByteArray := prog_13_method_38_code
def yX11_stretch : MethodName := ⟨RX11, "stretch", "(II)I"⟩
abbrev cX11_numberKind : ByteArray := prog_13_method_39_code
def yX11_numberKind : MethodName := ⟨RX11, "numberKind", "()I"⟩
abbrev cX11_countAll : ByteArray := prog_13_method_40_code
def yX11_countAll : MethodName := ⟨RX11, "countAll", "()V"⟩
abbrev cX11_isNumber : ByteArray := prog_13_method_41_code
def yX11_isNumber : MethodName := ⟨RX11, "isNumber", "(II)Z"⟩
abbrev cX11_kindWays : ByteArray := prog_13_method_42_code
def yX11_kindWays : MethodName := ⟨RX11, "kindWays", "(III)J"⟩
abbrev cX11_wordWays : ByteArray := prog_13_method_43_code
def yX11_wordWays : MethodName := ⟨RX11, "wordWays", "(III)J"⟩
abbrev cX11_letsRank : ByteArray := prog_13_method_44_code
def yX11_letsRank : MethodName := ⟨RX11, "letsRank", "(III)Z"⟩
abbrev cX11_endOf : ByteArray := prog_13_method_45_code
def yX11_endOf : MethodName := ⟨RX11, "endOf", "(II)I"⟩
abbrev cX11_holeWays : ByteArray := prog_13_method_46_code
def yX11_holeWays : MethodName := ⟨RX11, "holeWays", "(IIII)J"⟩
abbrev cX11_allWays : ByteArray := prog_13_method_47_code
def yX11_allWays : MethodName := ⟨RX11, "allWays", "(II)J"⟩
abbrev cX11_count : ByteArray := prog_13_method_48_code
def yX11_count : MethodName := ⟨RX11, "count", "(II)J"⟩
abbrev cX11_quarrel : ByteArray := prog_13_method_49_code
def yX11_quarrel : MethodName := ⟨RX11, "quarrel", "()I"⟩
abbrev cX11_pile : ByteArray := prog_13_method_50_code
def yX11_pile : MethodName := ⟨RX11, "pile", "(IIIIIJII)V"⟩
abbrev cX11_read : ByteArray := prog_13_method_51_code
def yX11_read : MethodName := ⟨RX11, "read", "(J)I"⟩
abbrev cX11_open : ByteArray := prog_13_method_52_code
def yX11_open : MethodName := ⟨RX11, "open", "(I)V"⟩
abbrev cX11_restWays : ByteArray := prog_13_method_53_code
def yX11_restWays : MethodName := ⟨RX11, "restWays", "(II)V"⟩
abbrev cX11_cut : ByteArray := prog_13_method_54_code
def yX11_cut : MethodName := ⟨RX11, "cut", "(IIIJI)V"⟩
abbrev cX11_node : ByteArray := prog_13_method_55_code
def yX11_node : MethodName := ⟨RX11, "node", "(II)I"⟩
abbrev cX11_bind : ByteArray := prog_13_method_56_code
def yX11_bind : MethodName := ⟨RX11, "bind", "(II)Z"⟩
abbrev cX11_behind : ByteArray := prog_13_method_57_code
def yX11_behind : MethodName := ⟨RX11, "behind", "(I)I"⟩
abbrev cX11_work : ByteArray := prog_13_method_58_code
def yX11_work : MethodName := ⟨RX11, "work", "()I"⟩
abbrev cX11_nextWithin : ByteArray := prog_13_method_59_code
def yX11_nextWithin : MethodName := ⟨RX11, "nextWithin", "(I)I"⟩
abbrev cX11_isThrough : ByteArray := prog_13_method_60_code
def yX11_isThrough : MethodName := ⟨RX11, "isThrough", "(I)Z"⟩
abbrev cX11_value : ByteArray := prog_13_method_61_code
def yX11_value : MethodName := ⟨RX11, "value", "(I)I"⟩
abbrev cX11_steps : ByteArray := prog_13_method_62_code
def yX11_steps : MethodName := ⟨RX11, "steps", "(II)I"⟩
abbrev cX11_worked : ByteArray := prog_13_method_63_code
def yX11_worked : MethodName := ⟨RX11, "worked", "(I)I"⟩
abbrev cX11_sure : ByteArray := prog_13_method_64_code
def yX11_sure : MethodName := ⟨RX11, "sure", "()I"⟩
abbrev cX11_isAgainst : ByteArray := prog_13_method_65_code
def yX11_isAgainst : MethodName := ⟨RX11, "isAgainst", "(II)Z"⟩
abbrev cX11_feed : ByteArray := prog_13_method_66_code
def yX11_feed : MethodName := ⟨RX11, "feed", "(IIIII)I"⟩
abbrev cX11_end : ByteArray := prog_13_method_67_code
def yX11_end : MethodName := ⟨RX11, "end", "(I)I"⟩
def RL : String := "MixfixBenchLaw"
abbrev cL_law : ByteArray := code
def X_cl : List vw_C := [(RX0, TX0, 8), (RX1, TX1, 8), (RX2, TX2, 13), (RX3, TX3, 7), (RX4, TX4, 4), (RX5, TX5, 7), (RX6, TX6, 3), (RX7, TX7, 2), (RX8, TX8, 15), (RX9, TX9, 7), (RX10, TX10, 9), (RX11, TX11, 72)]
def X_Rn : List String := [RX0, RX1, RX2, RX3, RX4, RX5, RX6, RX7, RX8, RX9, RX10, RX11, RL]
def X_R (o : Nat) : String := X_Rn.getD o ""
def X_ty (ci : Nat) : Nat → FieldType := match ci with
  | 0 => tyX0
  | 1 => tyX1
  | 2 => tyX2
  | 3 => tyX3
  | 4 => tyX4
  | 5 => tyX5
  | 6 => tyX6
  | 7 => tyX7
  | 8 => tyX8
  | 9 => tyX9
  | 10 => tyX10
  | _ => tyX11
/-- what a new object of each class holds -/
def X_df : List (List Value) := [[.int 0, .int 0, .int 0, .null, .null, .null, .null, .null],
  [.null, .null, .int 0, .null, .null, .null, .null, .null],
  [.null, .null, .null, .int 0, .null, .null, .null, .null, .null, .null, .null, .null, .null],
  [.null, .int 0, .int 0, .null, .null, .null, .int 0],
  [.null, .null, .int 0, .int 0],
  [.int 0, .null, .null, .null, .null, .null, .null],
  [.int 0, .null, .null],
  [.null, .int 0],
  [.int 0, .int 0, .int 0, .int 0, .int 0, .int 0, .int 0, .int 0, .null, .null, .null, .null, .null, .null, .null],
  [.null, .null, .int 0, .int 0, .null, .null, .int 0],
  [.null, .null, .null, .null, .null, .null, .null, .null, .null],
  [.null, .int 0, .null, .int 0, .int 0, .int 0, .int 0, .int 0, .int 0, .int 0, .int 0, .int 0, .long 0, .null, .null, .null, .null, .null, .null, .null, .null, .null, .null, .null, .null, .null, .null, .null, .int 0, .int 0, .int 0, .int 0, .int 0, .int 0, .null, .null, .null, .null, .int 0, .null, .null, .null, .null, .null, .null, .null, .null, .null, .null, .int 0, .null, .null, .null, .null, .null, .null, .null, .null, .int 0, .null, .null, .null, .null, .null, .null, .null, .null, .null, .int 0, .int 0, .int 0, .null]]
abbrev X_wci : Nat := 8
abbrev X_lawj : Nat := 203
/-- of each method: how many locals, how many parameters, its class, its type -/
def X_I : List (Nat × Nat × Nat × Option FieldType) := [(2, 0, 0, none),
  (1, 0, 0, none),
  (2, 1, 0, (some .boolean)),
  (2, 1, 0, (some .boolean)),
  (2, 1, 0, (some .boolean)),
  (3, 1, 0, (some .int)),
  (3, 1, 0, (some .int)),
  (5, 3, 0, (some .int)),
  (3, 1, 0, none),
  (4, 2, 0, none),
  (5, 2, 0, none),
  (3, 2, 0, (some .boolean)),
  (3, 2, 0, (some .boolean)),
  (1, 0, 0, (some .int)),
  (4, 1, 0, (some .int)),
  (4, 1, 0, (some .int)),
  (6, 0, 0, none),
  (10, 2, 0, (some .int)),
  (6, 2, 0, (some .boolean)),
  (3, 1, 0, (some .boolean)),
  (3, 2, 0, (some .boolean)),
  (3, 2, 1, none),
  (2, 1, 1, none),
  (3, 2, 1, (some .long)),
  (2, 2, 1, (some .int)),
  (3, 3, 1, (some .int)),
  (4, 3, 1, (some .long)),
  (5, 4, 1, (some .long)),
  (4, 3, 1, (some .long)),
  (6, 2, 1, (some .long)),
  (6, 2, 1, (some .long)),
  (3, 0, 1, none),
  (7, 2, 1, none),
  (7, 2, 1, none),
  (7, 2, 1, none),
  (5, 3, 1, none),
  (6, 3, 1, none),
  (12, 4, 1, (some .long)),
  (6, 4, 1, (some .long)),
  (4, 3, 2, none),
  (4, 1, 2, none),
  (5, 4, 2, none),
  (5, 3, 2, none),
  (9, 0, 2, none),
  (8, 1, 2, (some .int)),
  (19, 4, 2, (some .long)),
  (14, 3, 2, none),
  (2, 1, 3, none),
  (1, 0, 3, (some .int)),
  (1, 0, 3, (some .int)),
  (1, 0, 3, (some .long)),
  (3, 1, 3, (some .boolean)),
  (1, 0, 3, none),
  (2, 0, 3, none),
  (2, 1, 3, (some .int)),
  (3, 0, 3, (some .int)),
  (4, 0, 3, (some .int)),
  (5, 0, 3, (some .int)),
  (3, 1, 3, (some .int)),
  (2, 1, 3, (some .boolean)),
  (1, 1, 3, (some .boolean)),
  (1, 1, 3, (some .boolean)),
  (1, 1, 3, (some .boolean)),
  (1, 1, 3, (some .boolean)),
  (3, 2, 4, none),
  (3, 1, 4, (some .boolean)),
  (3, 2, 4, none),
  (1, 0, 4, none),
  (2, 1, 4, (some .boolean)),
  (1, 0, 4, none),
  (4, 0, 4, none),
  (4, 0, 4, none),
  (1, 0, 4, (some .int)),
  (1, 0, 4, (some .int)),
  (2, 1, 4, (some .int)),
  (4, 0, 4, none),
  (2, 1, 4, none),
  (8, 1, 4, (some .boolean)),
  (4, 1, 4, (some .boolean)),
  (9, 2, 4, (some .int)),
  (1, 0, 4, (some .boolean)),
  (1, 1, 4, (some .boolean)),
  (1, 0, 5, none),
  (1, 0, 5, none),
  (7, 5, 5, (some .int)),
  (3, 2, 5, (some .int)),
  (1, 0, 6, none),
  (7, 1, 6, (some .boolean)),
  (2, 1, 6, (some .boolean)),
  (5, 1, 6, (some .int)),
  (3, 2, 6, (some .boolean)),
  (1, 0, 7, none),
  (3, 1, 7, none),
  (2, 1, 7, (some .int)),
  (1, 0, 8, none),
  (2, 1, 8, none),
  (3, 1, 8, none),
  (1, 0, 8, (some .boolean)),
  (2, 1, 8, none),
  (3, 2, 8, none),
  (2, 1, 8, (some .boolean)),
  (1, 0, 8, (some .int)),
  (1, 0, 8, (some .boolean)),
  (4, 1, 8, (some .boolean)),
  (3, 2, 9, none),
  (1, 0, 9, none),
  (7, 1, 9, (some .int)),
  (5, 2, 9, (some .int)),
  (6, 2, 9, (some .boolean)),
  (2, 1, 9, none),
  (4, 1, 9, (some .boolean)),
  (3, 3, 9, (some .int)),
  (1, 0, 10, none),
  (6, 5, 10, (some .int)),
  (2, 1, 10, (some .int)),
  (3, 0, 10, (some .int)),
  (2, 1, 10, (some .int)),
  (2, 1, 10, (some .int)),
  (4, 2, 10, (some .int)),
  (3, 2, 10, (some .int)),
  (3, 2, 10, (some .int)),
  (2, 0, 10, (some .int)),
  (3, 2, 10, (some .long)),
  (5, 0, 10, (some .int)),
  (5, 1, 10, (some .int)),
  (3, 2, 10, (some .int)),
  (4, 2, 10, (some .boolean)),
  (1, 0, 10, (some .int)),
  (2, 1, 10, (some .int)),
  (3, 0, 10, (some .int)),
  (1, 0, 10, none),
  (2, 2, 10, (some .boolean)),
  (1, 1, 10, (some .boolean)),
  (1, 1, 10, (some .boolean)),
  (6, 2, 10, (some .long)),
  (4, 2, 10, (some .long)),
  (2, 1, 11, (some .int)),
  (1, 1, 11, (some .boolean)),
  (1, 1, 11, (some .boolean)),
  (3, 2, 11, none),
  (1, 0, 11, (some .boolean)),
  (3, 0, 11, none),
  (4, 2, 11, none),
  (3, 0, 11, none),
  (1, 1, 11, (some .boolean)),
  (2, 1, 11, (some .boolean)),
  (3, 1, 11, (some .boolean)),
  (1, 0, 11, none),
  (2, 1, 11, none),
  (4, 1, 11, (some .int)),
  (4, 1, 11, (some .int)),
  (2, 0, 11, (some .int)),
  (2, 0, 11, (some .int)),
  (2, 0, 11, none),
  (3, 2, 11, (some .boolean)),
  (6, 0, 11, none),
  (4, 0, 11, none),
  (4, 0, 11, none),
  (4, 1, 11, none),
  (7, 1, 11, none),
  (2, 1, 11, (some .int)),
  (1, 0, 11, none),
  (4, 0, 11, (some .int)),
  (2, 1, 11, (some .int)),
  (2, 1, 11, (some .int)),
  (2, 1, 11, (some .boolean)),
  (4, 2, 11, (some .int)),
  (3, 2, 11, (some .int)),
  (4, 2, 11, (some .boolean)),
  (3, 2, 11, (some .int)),
  (8, 0, 11, (some .int)),
  (4, 2, 11, (some .long)),
  (4, 2, 11, (some .long)),
  (2, 2, 11, (some .int)),
  (1, 0, 11, (some .int)),
  (6, 0, 11, none),
  (3, 2, 11, (some .boolean)),
  (8, 3, 11, (some .long)),
  (11, 3, 11, (some .long)),
  (6, 3, 11, (some .boolean)),
  (4, 2, 11, (some .int)),
  (11, 4, 11, (some .long)),
  (6, 2, 11, (some .long)),
  (5, 2, 11, (some .long)),
  (5, 0, 11, (some .int)),
  (10, 8, 11, none),
  (5, 1, 11, (some .int)),
  (16, 1, 11, none),
  (11, 2, 11, none),
  (21, 5, 11, none),
  (3, 2, 11, (some .int)),
  (3, 2, 11, (some .boolean)),
  (3, 1, 11, (some .int)),
  (5, 0, 11, (some .int)),
  (3, 1, 11, (some .int)),
  (2, 1, 11, (some .boolean)),
  (4, 1, 11, (some .int)),
  (9, 2, 11, (some .int)),
  (2, 1, 11, (some .int)),
  (3, 0, 11, (some .int)),
  (9, 2, 11, (some .boolean)),
  (8, 5, 11, (some .int)),
  (2, 1, 11, (some .int)),
  (4, 1, 12, (some .boolean))]
def X_nL (j : Nat) : Nat := match X_I[j]? with
  | some q => q.1
  | none => 0
def X_na (j : Nat) : Nat := match X_I[j]? with
  | some q => q.2.1
  | none => 0
def X_ci (j : Nat) : Nat := match X_I[j]? with
  | some q => q.2.2.1
  | none => 99
def X_rt (j : Nat) : Option FieldType := match X_I[j]? with
  | some q => q.2.2.2
  | none => none
/-- of each method: its class, its name, the place of its code, frames and locals below it, places of its words: initialized, instanceMethod or static, selects -/
def X_J : List (Nat × MethodName × Nat × Nat × Nat × Nat × Nat × Nat) := [(0, yX0_init, 125, 2, 40, 85, 124, 0),
  (0, yX0_clear, 223, 0, 0, 85, 221, 222),
  (0, yX0_hasRank, 808, 0, 0, 85, 806, 807),
  (0, yX0_hasKind, 683, 0, 0, 85, 681, 682),
  (0, yX0_hasWord, 799, 0, 0, 85, 797, 798),
  (0, yX0_rankNamed, 625, 1, 24, 85, 623, 624),
  (0, yX0_kindNamed, 670, 1, 24, 85, 668, 669),
  (0, yX0_indexOf, 628, 0, 0, 85, 627, 0),
  (0, yX0_addRank, 632, 0, 0, 85, 630, 631),
  (0, yX0_addKind, 679, 1, 21, 85, 677, 678),
  (0, yX0_setTighter, 660, 2, 43, 85, 658, 659),
  (0, yX0_isTighter, 653, 1, 21, 85, 651, 652),
  (0, yX0_isUnder, 758, 1, 21, 85, 756, 757),
  (0, yX0_numberKind, 884, 0, 0, 85, 882, 883),
  (0, yX0_kindsUnder, 754, 2, 43, 85, 752, 753),
  (0, yX0_wordsOfKinds, 762, 1, 21, 85, 760, 761),
  (0, yX0_settleHoles, 749, 4, 90, 85, 747, 748),
  (0, yX0_wordsFitting, 766, 3, 61, 85, 765, 20),
  (0, yX0_isAgainst, 1025, 3, 61, 85, 1023, 1024),
  (0, yX0_hasPartTwice, 1028, 1, 21, 85, 1027, 0),
  (0, yX0_shareAPart, 1032, 1, 23, 85, 1031, 0),
  (1, yX1_init, 375, 1, 20, 91, 374, 0),
  (1, yX1_startOver, 775, 0, 0, 91, 773, 774),
  (1, yX1_readingsOf, 912, 1, 21, 91, 910, 911),
  (1, yX1_rowOf, 843, 0, 0, 91, 842, 0),
  (1, yX1_tailOf, 855, 0, 0, 91, 854, 0),
  (1, yX1_wordReadings, 951, 1, 21, 91, 949, 950),
  (1, yX1_holeReadings, 859, 1, 21, 91, 857, 858),
  (1, yX1_plainReadings, 945, 2, 50, 91, 943, 944),
  (1, yX1_sumOfKinds, 894, 1, 25, 91, 893, 25),
  (1, yX1_sumOfWords, 900, 1, 25, 91, 899, 26),
  (1, yX1_fill, 836, 5, 128, 91, 834, 835),
  (1, yX1_fillStretch, 840, 4, 102, 91, 839, 22),
  (1, yX1_fillKinds, 871, 2, 50, 91, 870, 24),
  (1, yX1_fillHoles, 904, 2, 50, 91, 903, 27),
  (1, yX1_fillTails, 908, 3, 78, 91, 907, 28),
  (1, yX1_prepareTails, 959, 3, 78, 91, 957, 958),
  (1, yX1_ways, 847, 2, 47, 91, 846, 23),
  (1, yX1_tail, 852, 1, 22, 91, 850, 851),
  (2, yX2_init, 408, 1, 20, 92, 407, 0),
  (2, yX2_find, 924, 5, 131, 92, 922, 923),
  (2, yX2_await, 929, 0, 0, 92, 928, 29),
  (2, yX2_demand, 933, 0, 0, 92, 932, 30),
  (2, yX2_makeNode, 937, 4, 103, 92, 936, 31),
  (2, yX2_chooseWord, 941, 3, 73, 92, 940, 32),
  (2, yX2_splitWord, 963, 2, 47, 92, 962, 33),
  (2, yX2_fillWord, 971, 2, 45, 92, 970, 34),
  (3, yX3_init, 274, 1, 20, 88, 273, 0),
  (3, yX3_sort, 590, 0, 0, 88, 588, 589),
  (3, yX3_place, 612, 0, 0, 88, 610, 611),
  (3, yX3_content, 600, 0, 0, 88, 598, 599),
  (3, yX3_isKeyword, 595, 1, 20, 88, 593, 594),
  (3, yX3_advance, 620, 0, 0, 88, 618, 619),
  (3, yX3_start, 532, 4, 83, 88, 530, 531),
  (3, yX3_takeToken, 543, 3, 62, 88, 542, 0),
  (3, yX3_takeName, 550, 2, 40, 88, 549, 1),
  (3, yX3_takeNumber, 570, 1, 21, 88, 569, 2),
  (3, yX3_takePart, 576, 1, 21, 88, 575, 3),
  (3, yX3_takeSign, 583, 2, 40, 88, 582, 4),
  (3, yX3_isReserved, 559, 0, 0, 88, 558, 0),
  (3, yX3_isLetter, 546, 0, 0, 88, 545, 0),
  (3, yX3_isLetterOrDigit, 553, 1, 20, 88, 552, 0),
  (3, yX3_isPartByte, 579, 0, 0, 88, 578, 0),
  (3, yX3_isSign, 586, 0, 0, 88, 585, 0),
  (4, yX4_init, 268, 2, 41, 87, 267, 0),
  (4, yX4_parse, 527, 5, 116, 87, 525, 526),
  (4, yX4_blame, 616, 0, 0, 87, 615, 7),
  (4, yX4_refuse, 608, 1, 22, 87, 607, 6),
  (4, yX4_pass, 636, 2, 42, 87, 635, 8),
  (4, yX4_parseRank, 604, 3, 63, 87, 603, 5),
  (4, yX4_parseTighter, 641, 3, 67, 87, 640, 9),
  (4, yX4_parseKind, 666, 3, 66, 87, 665, 12),
  (4, yX4_passRank, 645, 2, 46, 87, 644, 10),
  (4, yX4_passKind, 675, 2, 46, 87, 674, 13),
  (4, yX4_passName, 649, 1, 22, 87, 648, 11),
  (4, yX4_parseWord, 688, 4, 93, 87, 687, 14),
  (4, yX4_parseLean, 696, 2, 42, 87, 695, 15),
  (4, yX4_parseElements, 702, 3, 66, 87, 701, 16),
  (4, yX4_parseSteps, 730, 3, 70, 87, 729, 17),
  (4, yX4_parseStep, 734, 2, 42, 87, 733, 18),
  (4, yX4_isNumber, 738, 1, 20, 87, 737, 19),
  (4, yX4_isOperation, 741, 0, 0, 87, 740, 0),
  (5, yX5_init, 337, 1, 20, 90, 336, 0),
  (5, yX5_clear, 779, 0, 0, 90, 777, 778),
  (5, yX5_add, 955, 0, 0, 90, 953, 954),
  (5, yX5_childOf, 998, 0, 0, 90, 996, 997),
  (6, yX6_init, 317, 1, 20, 89, 316, 0),
  (6, yX6_readFrom, 823, 1, 26, 89, 821, 822),
  (6, yX6_isNumber, 875, 1, 24, 89, 873, 874),
  (6, yX6_numberAt, 879, 0, 0, 89, 877, 878),
  (6, yX6_isBracketed, 888, 0, 0, 89, 886, 887),
  (7, yX7_init, 108, 1, 20, 84, 107, 0),
  (7, yX7_append, 515, 0, 0, 84, 513, 514),
  (7, yX7_byteAt, 536, 0, 0, 84, 534, 535),
  (8, yX8_init, 132, 1, 20, 86, 131, 0),
  (8, yX8_clear, 692, 0, 0, 86, 690, 691),
  (8, yX8_addPart, 714, 0, 0, 86, 712, 713),
  (8, yX8_mayTakeHole, 706, 1, 21, 86, 704, 705),
  (8, yX8_addHole, 718, 0, 0, 86, 716, 717),
  (8, yX8_addStep, 745, 0, 0, 86, 743, 744),
  (8, yX8_isHole, 710, 0, 0, 86, 708, 709),
  (8, yX8_ends, 726, 1, 21, 86, 724, 725),
  (8, yX8_isClosed, 722, 2, 41, 86, 720, 721),
  (8, yX8_hasPart, 1036, 0, 0, 86, 1034, 1035),
  (9, yX9_init, 454, 1, 20, 93, 453, 0),
  (9, yX9_forget, 783, 0, 0, 93, 781, 782),
  (9, yX9_run, 988, 4, 94, 93, 986, 987),
  (9, yX9_workNode, 993, 3, 70, 93, 992, 35),
  (9, yX9_runSteps, 1002, 2, 45, 93, 1001, 36),
  (9, yX9_push, 1006, 0, 0, 93, 1005, 37),
  (9, yX9_operate, 1010, 1, 22, 93, 1009, 38),
  (9, yX9_outcome, 1013, 0, 0, 93, 1012, 0),
  (10, yX10_init, 100, 3, 63, 83, 99, 0),
  (10, yX10_feed, 511, 1, 22, 83, 509, 510),
  (10, yX10_end, 519, 0, 0, 83, 517, 518),
  (10, yX10_book, 523, 6, 138, 83, 521, 522),
  (10, yX10_fault, 787, 0, 0, 83, 785, 786),
  (10, yX10_about, 791, 0, 0, 83, 789, 790),
  (10, yX10_word, 795, 2, 41, 83, 793, 794),
  (10, yX10_tighter, 804, 2, 43, 83, 802, 803),
  (10, yX10_under, 813, 2, 43, 83, 811, 812),
  (10, yX10_sentence, 819, 2, 52, 83, 817, 818),
  (10, yX10_count, 832, 6, 150, 83, 830, 831),
  (10, yX10_quarrel, 916, 6, 150, 83, 914, 915),
  (10, yX10_read, 920, 6, 154, 83, 918, 919),
  (10, yX10_node, 976, 0, 0, 83, 974, 975),
  (10, yX10_bind, 980, 1, 21, 83, 978, 979),
  (10, yX10_work, 984, 5, 120, 83, 982, 983),
  (10, yX10_worked, 1017, 0, 0, 83, 1015, 1016),
  (10, yX10_sure, 1021, 4, 86, 83, 1019, 1020),
  (10, yX10_dropReading, 771, 1, 21, 83, 770, 21),
  (10, yX10_hasBit, 656, 0, 0, 83, 655, 0),
  (10, yX10_isDigit, 556, 0, 0, 83, 555, 0),
  (10, yX10_isBlank, 539, 0, 0, 83, 538, 0),
  (10, yX10_plus, 867, 0, 0, 83, 866, 0),
  (10, yX10_times, 862, 0, 0, 83, 861, 0),
  (11, yX11_sign, 1274, 0, 0, 94, 1273, 40),
  (11, yX11_isLetter, 1277, 0, 0, 94, 1276, 0),
  (11, yX11_isDigit, 1280, 0, 0, 94, 1279, 0),
  (11, yX11_fails, 1310, 0, 0, 94, 1309, 45),
  (11, yX11_isGood, 1302, 0, 0, 94, 1301, 43),
  (11, yX11_next, 1270, 3, 66, 94, 1269, 39),
  (11, yX11_pack, 1284, 1, 21, 94, 1283, 41),
  (11, yX11_nextPart, 1295, 2, 44, 94, 1294, 42),
  (11, yX11_isPartSign, 1298, 0, 0, 94, 1297, 0),
  (11, yX11_is, 1326, 1, 21, 94, 1325, 49),
  (11, yX11_isWord, 1350, 0, 0, 94, 1349, 55),
  (11, yX11_wrong, 1306, 1, 22, 94, 1305, 44),
  (11, yX11_must, 1322, 4, 88, 94, 1321, 48),
  (11, yX11_rankOf, 1318, 0, 0, 94, 1317, 47),
  (11, yX11_kindOf, 1346, 0, 0, 94, 1345, 54),
  (11, yX11_aRank, 1334, 4, 88, 94, 1333, 51),
  (11, yX11_aKind, 1354, 4, 88, 94, 1353, 56),
  (11, yX11_readRank, 1314, 5, 109, 94, 1313, 46),
  (11, yX11_tight, 1338, 0, 0, 94, 1337, 52),
  (11, yX11_readTighter, 1330, 5, 109, 94, 1329, 50),
  (11, yX11_readKind, 1342, 5, 109, 94, 1341, 53),
  (11, yX11_readWord, 1358, 6, 132, 94, 1357, 57),
  (11, yX11_readElement, 1362, 5, 109, 94, 1361, 58),
  (11, yX11_readSteps, 1370, 4, 88, 94, 1369, 60),
  (11, yX11_ends, 1366, 0, 0, 94, 1365, 59),
  (11, yX11_init, 1041, 1, 20, 94, 1040, 0),
  (11, yX11_book, 1266, 7, 155, 94, 1264, 1265),
  (11, yX11_fault, 1374, 0, 0, 94, 1372, 1373),
  (11, yX11_about, 1378, 0, 0, 94, 1376, 1377),
  (11, yX11_isWordNumber, 1386, 0, 0, 94, 1385, 61),
  (11, yX11_word, 1382, 1, 21, 94, 1380, 1381),
  (11, yX11_tighter, 1390, 1, 22, 94, 1388, 1389),
  (11, yX11_isUnder, 1398, 0, 0, 94, 1397, 62),
  (11, yX11_under, 1394, 1, 23, 94, 1392, 1393),
  (11, yX11_sentence, 1402, 4, 102, 94, 1400, 1401),
  (11, yX11_sum, 1416, 0, 0, 94, 1415, 0),
  (11, yX11_product, 1420, 0, 0, 94, 1419, 0),
  (11, yX11_stretch, 1409, 0, 0, 94, 1408, 0),
  (11, yX11_numberKind, 1435, 0, 0, 94, 1434, 67),
  (11, yX11_countAll, 1406, 3, 77, 94, 1405, 63),
  (11, yX11_isNumber, 1431, 0, 0, 94, 1430, 66),
  (11, yX11_kindWays, 1427, 1, 23, 94, 1426, 65),
  (11, yX11_wordWays, 1413, 1, 23, 94, 1412, 64),
  (11, yX11_letsRank, 1447, 1, 22, 94, 1446, 70),
  (11, yX11_endOf, 1443, 0, 0, 94, 1442, 69),
  (11, yX11_holeWays, 1439, 2, 47, 94, 1438, 68),
  (11, yX11_allWays, 1455, 2, 50, 94, 1454, 71),
  (11, yX11_count, 1451, 3, 75, 94, 1449, 1450),
  (11, yX11_quarrel, 1460, 3, 75, 94, 1458, 1459),
  (11, yX11_pile, 1468, 0, 0, 94, 1467, 72),
  (11, yX11_read, 1464, 4, 128, 94, 1462, 1463),
  (11, yX11_open, 1472, 3, 93, 94, 1471, 73),
  (11, yX11_restWays, 1480, 1, 23, 94, 1479, 75),
  (11, yX11_cut, 1476, 2, 53, 94, 1475, 74),
  (11, yX11_node, 1484, 0, 0, 94, 1482, 1483),
  (11, yX11_bind, 1488, 1, 21, 94, 1486, 1487),
  (11, yX11_behind, 1496, 0, 0, 94, 1495, 76),
  (11, yX11_work, 1492, 2, 51, 94, 1490, 1491),
  (11, yX11_nextWithin, 1504, 0, 0, 94, 1503, 78),
  (11, yX11_isThrough, 1500, 1, 22, 94, 1499, 77),
  (11, yX11_value, 1508, 1, 28, 94, 1507, 79),
  (11, yX11_steps, 1512, 0, 0, 94, 1511, 80),
  (11, yX11_worked, 1516, 0, 0, 94, 1514, 1515),
  (11, yX11_sure, 1520, 2, 50, 94, 1518, 1519),
  (11, yX11_isAgainst, 1524, 1, 22, 94, 1523, 81),
  (11, yX11_feed, 1528, 0, 0, 94, 1526, 1527),
  (11, yX11_end, 1532, 0, 0, 94, 1530, 1531),
  (12, x, 0, 10, 360, 0, 0, 0)]
/-- of each class: the places of instantiable and initialized -/
def X_K2 : List (Nat × Nat) := [(122, 85), (372, 91), (405, 92), (271, 88), (265, 87), (334, 90), (314, 89), (105, 84), (129, 86), (451, 93), (97, 83), (1038, 94)]
/-- the entries of each class: fields, methods; and which kind each method is -/
def X_PF0 : List (Nat × Nat × Nat × Nat) := [(104, 8, 0, 1), (97, 8, 1, 1), (65, 8, 2, 1), (68, 8, 3, 1), (119, 8, 8, 1), (74, 8, 9, 1), (77, 8, 10, 1), (87, 8, 11, 1), (84, 8, 12, 1), (35, 0, 0, 0), (39, 0, 1, 0), (42, 0, 2, 0), (9, 0, 3, 0), (15, 0, 4, 0), (19, 0, 5, 0), (22, 0, 6, 0), (27, 0, 7, 0)]
def X_PM0 : List (Nat × Nat × Nat) := [(31, 94, 1), (32, 1, 0), (47, 7, 0), (59, 131, 1), (55, 11, 0), (51, 3, 0), (71, 100, 0), (80, 14, 0), (62, 12, 0), (90, 15, 0), (93, 17, 0), (100, 102, 0), (107, 19, 0), (111, 101, 0), (115, 20, 0), (122, 103, 0)]
def X_PF1 : List (Nat × Nat × Nat × Nat) := [(126, 8, 3, 1), (114, 8, 4, 1), (132, 8, 8, 1), (141, 8, 9, 1), (123, 8, 11, 1), (119, 8, 12, 1), (48, 0, 1, 1), (62, 0, 2, 1), (110, 0, 7, 1), (65, 6, 0, 1), (135, 6, 1, 1), (32, 1, 0, 0), (36, 1, 1, 0), (9, 1, 2, 0), (15, 1, 3, 0), (19, 1, 4, 0), (22, 1, 5, 0), (26, 1, 6, 0), (29, 1, 7, 0)]
def X_PM1 : List (Nat × Nat × Nat) := [(70, 32, 0), (40, 24, 0), (74, 37, 0), (129, 100, 0), (138, 38, 0), (78, 25, 0), (144, 27, 0), (147, 135, 1), (58, 134, 1), (82, 33, 0), (95, 88, 0), (99, 13, 0), (103, 90, 0), (44, 29, 0), (54, 131, 1), (106, 15, 0), (85, 30, 0), (88, 34, 0), (91, 35, 0)]
def X_PF2 : List (Nat × Nat × Nat × Nat) := [(126, 8, 3, 1), (149, 8, 4, 1), (135, 8, 9, 1), (151, 8, 11, 1), (154, 8, 12, 1), (111, 0, 2, 1), (123, 0, 7, 1), (61, 6, 0, 1), (98, 1, 0, 1), (44, 2, 0, 0), (48, 2, 1, 0), (52, 2, 2, 0), (9, 2, 3, 0), (15, 2, 4, 0), (19, 2, 5, 0), (22, 2, 6, 0), (25, 2, 7, 0), (28, 2, 8, 0), (31, 2, 9, 0), (34, 2, 10, 0), (38, 2, 11, 0), (41, 2, 12, 0)]
def X_PM2 : List (Nat × Nat × Nat) := [(56, 83, 0), (66, 41, 0), (70, 42, 0), (74, 43, 0), (77, 44, 0), (107, 28, 0), (116, 131, 1), (120, 26, 0), (81, 84, 0), (85, 36, 0), (91, 45, 0), (131, 100, 0), (138, 27, 0), (142, 135, 1), (146, 38, 0), (95, 46, 0), (102, 15, 0)]
def X_PF3 : List (Nat × Nat × Nat × Nat) := [(44, 7, 1, 1), (22, 3, 0, 0), (41, 3, 1, 0), (38, 3, 2, 0), (9, 3, 3, 0), (15, 3, 4, 0), (18, 3, 5, 0), (26, 3, 6, 0)]
def X_PM3 : List (Nat × Nat × Nat) := [(49, 93, 0), (53, 133, 1), (57, 54, 0), (60, 60, 0), (63, 55, 0), (78, 61, 0), (66, 132, 1), (81, 59, 0), (69, 56, 0), (72, 57, 0), (89, 62, 0), (75, 58, 0), (92, 63, 0), (30, 48, 0), (34, 50, 0)]
def X_PF4 : List (Nat × Nat × Nat × Nat) := [(154, 8, 1, 1), (147, 8, 2, 1), (164, 8, 3, 1), (161, 8, 4, 1), (183, 8, 5, 1), (83, 0, 0, 1), (112, 0, 1, 1), (131, 0, 2, 1), (134, 0, 7, 1), (23, 4, 0, 0), (27, 4, 1, 0), (9, 4, 2, 0), (15, 4, 3, 0)]
def X_PM4 : List (Nat × Nat × Nat) := [(20, 47, 0), (31, 1, 0), (36, 53, 0), (39, 48, 0), (45, 51, 0), (49, 69, 0), (67, 67, 0), (73, 49, 0), (76, 66, 0), (80, 52, 0), (86, 50, 0), (90, 5, 0), (94, 8, 0), (98, 68, 0), (54, 70, 0), (102, 72, 0), (127, 74, 0), (105, 11, 0), (109, 10, 0), (59, 71, 0), (115, 6, 0), (120, 73, 0), (123, 9, 0), (64, 75, 0), (138, 95, 0), (143, 76, 0), (150, 77, 0), (174, 97, 0), (177, 96, 0), (180, 98, 0), (157, 102, 0), (167, 78, 0), (186, 79, 0), (190, 80, 0), (193, 81, 0), (196, 99, 0), (70, 16, 0)]
def X_PF5 : List (Nat × Nat × Nat × Nat) := [(9, 5, 0, 0), (15, 5, 1, 0), (19, 5, 2, 0), (22, 5, 3, 0), (25, 5, 4, 0), (28, 5, 5, 0), (31, 5, 6, 0)]
def X_PM5 : List (Nat × Nat × Nat) := []
def X_PF6 : List (Nat × Nat × Nat × Nat) := [(22, 7, 1, 1), (9, 6, 0, 0), (15, 6, 1, 0), (19, 6, 2, 0)]
def X_PM6 : List (Nat × Nat × Nat) := [(27, 93, 0), (31, 133, 1), (41, 89, 0)]
def X_PF7 : List (Nat × Nat × Nat × Nat) := [(9, 7, 0, 0), (15, 7, 1, 0)]
def X_PM7 : List (Nat × Nat × Nat) := []
def X_PF8 : List (Nat × Nat × Nat × Nat) := [(34, 8, 0, 0), (38, 8, 1, 0), (41, 8, 2, 0), (44, 8, 3, 0), (47, 8, 4, 0), (50, 8, 5, 0), (53, 8, 6, 0), (57, 8, 7, 0), (9, 8, 8, 0), (15, 8, 9, 0), (19, 8, 10, 0), (22, 8, 11, 0), (25, 8, 12, 0), (28, 8, 13, 0), (31, 8, 14, 0)]
def X_PM8 : List (Nat × Nat × Nat) := [(60, 100, 0), (64, 101, 0)]
def X_PF9 : List (Nat × Nat × Nat × Nat) := [(73, 8, 5, 1), (85, 8, 6, 1), (82, 8, 7, 1), (89, 8, 13, 1), (92, 8, 14, 1), (67, 0, 7, 1), (39, 5, 0, 1), (51, 5, 1, 1), (54, 5, 2, 1), (44, 5, 4, 1), (28, 9, 0, 0), (32, 9, 1, 0), (9, 9, 2, 0), (15, 9, 3, 0), (18, 9, 4, 0), (22, 9, 5, 0), (25, 9, 6, 0)]
def X_PM9 : List (Nat × Nat × Nat) := [(36, 105, 0), (47, 107, 0), (57, 89, 0), (63, 85, 0), (78, 108, 0), (97, 109, 0), (101, 110, 0), (105, 111, 0)]
def X_PF10 : List (Nat × Nat × Nat × Nat) := [(76, 7, 1, 1), (118, 8, 0, 1), (123, 8, 1, 1), (126, 8, 2, 1), (129, 8, 3, 1), (132, 8, 4, 1), (139, 8, 5, 1), (190, 8, 6, 1), (194, 8, 7, 1), (103, 0, 0, 1), (106, 0, 1, 1), (94, 0, 2, 1), (114, 0, 7, 1), (97, 4, 2, 1), (100, 4, 3, 1), (88, 6, 0, 1), (109, 5, 0, 1), (175, 5, 1, 1), (179, 5, 2, 1), (182, 5, 3, 1), (184, 5, 4, 1), (187, 5, 5, 1), (201, 9, 2, 1), (204, 9, 3, 1), (12, 10, 0, 0), (19, 10, 1, 0), (23, 10, 2, 0), (31, 10, 3, 0), (38, 10, 4, 0), (45, 10, 5, 0), (54, 10, 6, 0), (63, 10, 7, 0), (72, 10, 8, 0)]
def X_PM10 : List (Nat × Nat × Nat) := [(11, 91, 1), (18, 0, 0), (28, 64, 0), (37, 86, 1), (44, 82, 1), (51, 21, 0), (60, 39, 0), (69, 104, 0), (80, 92, 0), (84, 65, 0), (91, 130, 0), (210, 22, 0), (214, 83, 0), (172, 105, 0), (110, 4, 0), (135, 101, 0), (142, 2, 0), (145, 11, 0), (149, 3, 0), (152, 12, 0), (155, 87, 0), (159, 31, 0), (162, 23, 0), (168, 40, 0), (197, 106, 0), (207, 18, 0)]
def X_PF11 : List (Nat × Nat × Nat × Nat) := [(188, 11, 0, 0), (293, 11, 1, 0), (7, 11, 2, 0), (1, 11, 3, 0), (91, 11, 4, 0), (11, 11, 5, 0), (14, 11, 6, 0), (20, 11, 7, 0), (17, 11, 8, 0), (27, 11, 9, 0), (59, 11, 10, 0), (62, 11, 11, 0), (41, 11, 12, 0), (87, 11, 13, 0), (97, 11, 14, 0), (111, 11, 15, 0), (134, 11, 16, 0), (141, 11, 17, 0), (144, 11, 18, 0), (147, 11, 19, 0), (150, 11, 20, 0), (153, 11, 21, 0), (156, 11, 22, 0), (177, 11, 23, 0), (180, 11, 24, 0), (168, 11, 25, 0), (171, 11, 26, 0), (174, 11, 27, 0), (84, 11, 28, 0), (94, 11, 29, 0), (138, 11, 30, 0), (308, 11, 31, 0), (191, 11, 32, 0), (311, 11, 33, 0), (194, 11, 34, 0), (197, 11, 35, 0), (200, 11, 36, 0), (203, 11, 37, 0), (314, 11, 38, 0), (206, 11, 39, 0), (209, 11, 40, 0), (213, 11, 41, 0), (216, 11, 42, 0), (219, 11, 43, 0), (222, 11, 44, 0), (225, 11, 45, 0), (228, 11, 46, 0), (231, 11, 47, 0), (234, 11, 48, 0), (317, 11, 49, 0), (237, 11, 50, 0), (240, 11, 51, 0), (243, 11, 52, 0), (246, 11, 53, 0), (249, 11, 54, 0), (252, 11, 55, 0), (255, 11, 56, 0), (258, 11, 57, 0), (382, 11, 58, 0), (261, 11, 59, 0), (264, 11, 60, 0), (267, 11, 61, 0), (270, 11, 62, 0), (273, 11, 63, 0), (276, 11, 64, 0), (279, 11, 65, 0), (282, 11, 66, 0), (285, 11, 67, 0), (320, 11, 68, 0), (402, 11, 69, 0), (399, 11, 70, 0), (288, 11, 71, 0)]
def X_PM11 : List (Nat × Nat × Nat) := [(78, 141, 0), (23, 136, 0), (30, 137, 0), (34, 138, 0), (37, 142, 0), (65, 143, 0), (69, 144, 0), (100, 140, 0), (81, 147, 0), (72, 139, 0), (296, 153, 0), (104, 149, 0), (115, 148, 0), (75, 145, 0), (299, 155, 0), (119, 151, 0), (123, 154, 0), (302, 156, 0), (108, 150, 0), (127, 146, 0), (131, 152, 0), (305, 157, 0), (159, 158, 0), (162, 160, 0), (165, 159, 0), (324, 165, 0), (327, 168, 0), (330, 175, 0), (337, 173, 0), (341, 178, 0), (362, 171, 0), (366, 172, 0), (349, 177, 0), (356, 176, 0), (359, 174, 0), (352, 181, 0), (369, 180, 0), (372, 179, 0), (376, 182, 0), (385, 185, 0), (389, 187, 0), (392, 189, 0), (396, 188, 0), (405, 192, 0), (408, 195, 0), (411, 194, 0), (414, 196, 0), (417, 197, 0), (420, 200, 0)]
def X_PF12 : List (Nat × Nat × Nat × Nat) := []
def X_PM12 : List (Nat × Nat × Nat) := [(9, 112, 0), (13, 113, 0), (18, 114, 0), (23, 115, 0), (28, 116, 0), (32, 117, 0), (36, 118, 0), (41, 119, 0), (45, 120, 0), (49, 121, 0), (53, 122, 0), (58, 123, 0), (64, 124, 0), (69, 125, 0), (73, 126, 0), (78, 127, 0), (82, 128, 0), (86, 129, 0), (12, 161, 0), (27, 162, 0), (31, 163, 0), (35, 164, 0), (40, 166, 0), (44, 167, 0), (48, 169, 0), (52, 170, 0), (57, 183, 0), (61, 184, 0), (68, 186, 0), (72, 190, 0), (77, 191, 0), (81, 193, 0), (85, 198, 0), (89, 199, 0), (17, 201, 0), (22, 202, 0)]
def X_PF : List (List (Nat × Nat × Nat × Nat)) := [X_PF0, X_PF1, X_PF2, X_PF3, X_PF4, X_PF5, X_PF6, X_PF7, X_PF8, X_PF9, X_PF10, X_PF11, X_PF12]
def X_PM : List (List (Nat × Nat × Nat)) := [X_PM0, X_PM1, X_PM2, X_PM3, X_PM4, X_PM5, X_PM6, X_PM7, X_PM8, X_PM9, X_PM10, X_PM11, X_PM12]
def X_KD : List Nat := [2, 0, 0, 0, 0, 0, 0, 1, 0, 0, 0, 0, 0, 0, 0, 0, 0, 0, 0, 1, 1, 2, 0, 0, 1, 1, 0, 0, 0, 0, 0, 0, 0, 0, 0, 0, 0, 0, 0, 2, 0, 0, 0, 0, 0, 0, 0, 2, 0, 0, 0, 0, 0, 0, 0, 0, 0, 0, 0, 1, 1, 1, 1, 1, 2, 0, 0, 0, 0, 0, 0, 0, 0, 0, 0, 0, 0, 0, 0, 0, 0, 1, 2, 0, 0, 0, 2, 0, 0, 0, 0, 2, 0, 0, 2, 0, 0, 0, 0, 0, 0, 0, 0, 0, 2, 0, 0, 0, 0, 0, 0, 1, 2, 0, 0, 0, 0, 0, 0, 0, 0, 0, 0, 0, 0, 0, 0, 0, 0, 0, 0, 1, 1, 1, 1, 1, 0, 1, 1, 0, 0, 0, 0, 0, 1, 0, 0, 0, 0, 0, 0, 0, 0, 0, 0, 0, 0, 0, 0, 0, 0, 2, 0, 0, 0, 0, 0, 0, 0, 0, 0, 1, 1, 1, 0, 0, 0, 0, 0, 0, 0, 0, 0, 0, 0, 0, 0, 0, 0, 0, 0, 0, 0, 0, 0, 0, 0, 0, 0, 0, 0, 0, 0, 9]
abbrev X_lp0 : List Nat := [247, 249, 251, 253, 255, 257, 259, 261]
abbrev X_lp1 : List Nat := [387, 389, 391, 393, 395, 397, 399, 401]
abbrev X_lp2 : List Nat := [423, 425, 427, 429, 431, 433, 435, 437, 439, 441, 443, 445, 447]
abbrev X_lp3 : List Nat := [283, 285, 287, 289, 291, 293, 295]
abbrev X_lp4 : List Nat := [304, 306, 308, 310]
abbrev X_lp5 : List Nat := [356, 358, 360, 362, 364, 366, 368]
abbrev X_lp6 : List Nat := [326, 328, 330]
abbrev X_lp7 : List Nat := [115, 117]
abbrev X_lp8 : List Nat := [187, 189, 191, 193, 195, 197, 199, 201, 203, 205, 207, 209, 211, 213, 215]
abbrev X_lp9 : List Nat := [465, 467, 469, 471, 473, 475, 477]
abbrev X_lp10 : List Nat := [489, 491, 493, 495, 497, 499, 501, 503, 505]
abbrev X_lp11 : List Nat := [1117, 1119, 1121, 1123, 1125, 1127, 1129, 1131, 1133, 1135, 1137, 1139, 1141, 1143, 1145, 1147, 1149, 1151, 1153, 1155, 1157, 1159, 1161, 1163, 1165, 1167, 1169, 1171, 1173, 1175, 1177, 1179, 1181, 1183, 1185, 1187, 1189, 1191, 1193, 1195, 1197, 1199, 1201, 1203, 1205, 1207, 1209, 1211, 1213, 1215, 1217, 1219, 1221, 1223, 1225, 1227, 1229, 1231, 1233, 1235, 1237, 1239, 1241, 1243, 1245, 1247, 1249, 1251, 1253, 1255, 1257, 1259]
abbrev X_oi : Nat := 102
abbrev X_oc : Nat := 103
abbrev X_an : Nat := 828
abbrev X_as : Nat := 827
abbrev X_ai : Nat := 95
abbrev X_ao : Nat := 128
abbrev X_ap : List Nat := [219, 218, 120, 1262]
end
section
/-- MixfixBench$Book.<init> -/
def X_c0 : List (Nat × (Jvm.ClassFile.Instr × Nat) × (Nat × Nat × Nat)) := [(0, (.aload_n 0, 1), (0, 0, 0)), (1, (.invokespecial 3, 3), (9999, 126, 0)), (4, (.aload_n 0, 1), (0, 0, 0)), (5, (.bipush 12, 2), (0, 0, 0)), (7, (.newarray .long, 2), (0, 0, 0)), (9, (.putfield 9, 3), (0, 3, 24)), (12, (.aload_n 0, 1), (0, 0, 0)), (13, (.bipush 12, 2), (0, 0, 0)), (15, (.newarray .int, 2), (0, 0, 0)), (17, (.putfield 15, 3), (0, 4, 26)), (20, (.aload_n 0, 1), (0, 0, 0)), (21, (.bipush 11, 2), (0, 0, 0)), (23, (.newarray .long, 2), (0, 0, 0)), (25, (.putfield 19, 3), (0, 5, 28)), (28, (.aload_n 0, 1), (0, 0, 0)), (29, (.bipush 11, 2), (0, 0, 0)), (31, (.newarray .int, 2), (0, 0, 0)), (33, (.putfield 22, 3), (0, 6, 30)), (36, (.aload_n 0, 1), (0, 0, 0)), (37, (.bipush 30, 2), (0, 0, 0)), (39, (.anewarray 25, 3), (127, 0, 0)), (42, (.putfield 27, 3), (0, 7, 32)), (45, (.iconst 0, 1), (0, 0, 0)), (46, (.istore_n 1, 1), (0, 0, 0)), (47, (.iload_n 1, 1), (0, 0, 0)), (48, (.bipush 30, 2), (0, 0, 0)), (50, (.if_icmp .ge 22, 3), (0, 0, 0)), (53, (.aload_n 0, 1), (0, 0, 0)), (54, (.getfield 27, 3), (0, 7, 32)), (57, (.iload_n 1, 1), (0, 0, 0)), (58, (.new 25, 3), (8, 127, 0)), (61, (.dup, 1), (0, 0, 0)), (62, (.invokespecial 31, 3), (94, 1, 0)), (65, (.aastore, 1), (0, 0, 0)), (66, (.iinc 1 1, 3), (0, 0, 0)), (69, (.goto (-22), 3), (0, 0, 0)), (72, (.aload_n 0, 1), (0, 0, 0)), (73, (.invokevirtual 32, 3), (1, 2, 0)), (76, (.return_, 1), (0, 0, 0))]
/-- MixfixBench$Book.clear -/
def X_c1 : List (Nat × (Jvm.ClassFile.Instr × Nat) × (Nat × Nat × Nat)) := [(0, (.aload_n 0, 1), (0, 0, 0)), (1, (.iconst 0, 1), (0, 0, 0)), (2, (.putfield 35, 3), (0, 0, 18)), (5, (.aload_n 0, 1), (0, 0, 0)), (6, (.iconst 1, 1), (0, 0, 0)), (7, (.putfield 39, 3), (0, 1, 20)), (10, (.aload_n 0, 1), (0, 0, 0)), (11, (.iconst 0, 1), (0, 0, 0)), (12, (.putfield 42, 3), (0, 2, 22)), (15, (.aload_n 0, 1), (0, 0, 0)), (16, (.getfield 19, 3), (0, 5, 28)), (19, (.iconst 0, 1), (0, 0, 0)), (20, (.ldc2_w 45, 3), (6384748, 224, 0)), (23, (.lastore, 1), (0, 0, 0)), (24, (.aload_n 0, 1), (0, 0, 0)), (25, (.getfield 22, 3), (0, 6, 30)), (28, (.iconst 0, 1), (0, 0, 0)), (29, (.iconst 1, 1), (0, 0, 0)), (30, (.iastore, 1), (0, 0, 0)), (31, (.return_, 1), (0, 0, 0))]
/-- MixfixBench$Book.hasRank -/
def X_c2 : List (Nat × (Jvm.ClassFile.Instr × Nat) × (Nat × Nat × Nat)) := [(0, (.iload_n 1, 1), (0, 0, 0)), (1, (.ifCond .lt 15, 3), (0, 0, 0)), (4, (.iload_n 1, 1), (0, 0, 0)), (5, (.aload_n 0, 1), (0, 0, 0)), (6, (.getfield 35, 3), (0, 0, 18)), (9, (.if_icmp .ge 7, 3), (0, 0, 0)), (12, (.iconst 1, 1), (0, 0, 0)), (13, (.goto 4, 3), (0, 0, 0)), (16, (.iconst 0, 1), (0, 0, 0)), (17, (.ireturn, 1), (0, 0, 0))]
/-- MixfixBench$Book.hasKind -/
def X_c3 : List (Nat × (Jvm.ClassFile.Instr × Nat) × (Nat × Nat × Nat)) := [(0, (.iload_n 1, 1), (0, 0, 0)), (1, (.ifCond .lt 15, 3), (0, 0, 0)), (4, (.iload_n 1, 1), (0, 0, 0)), (5, (.aload_n 0, 1), (0, 0, 0)), (6, (.getfield 39, 3), (0, 1, 20)), (9, (.if_icmp .ge 7, 3), (0, 0, 0)), (12, (.iconst 1, 1), (0, 0, 0)), (13, (.goto 4, 3), (0, 0, 0)), (16, (.iconst 0, 1), (0, 0, 0)), (17, (.ireturn, 1), (0, 0, 0))]
/-- MixfixBench$Book.hasWord -/
def X_c4 : List (Nat × (Jvm.ClassFile.Instr × Nat) × (Nat × Nat × Nat)) := [(0, (.iload_n 1, 1), (0, 0, 0)), (1, (.ifCond .lt 15, 3), (0, 0, 0)), (4, (.iload_n 1, 1), (0, 0, 0)), (5, (.aload_n 0, 1), (0, 0, 0)), (6, (.getfield 42, 3), (0, 2, 22)), (9, (.if_icmp .ge 7, 3), (0, 0, 0)), (12, (.iconst 1, 1), (0, 0, 0)), (13, (.goto 4, 3), (0, 0, 0)), (16, (.iconst 0, 1), (0, 0, 0)), (17, (.ireturn, 1), (0, 0, 0))]
/-- MixfixBench$Book.rankNamed -/
def X_c5 : List (Nat × (Jvm.ClassFile.Instr × Nat) × (Nat × Nat × Nat)) := [(0, (.aload_n 0, 1), (0, 0, 0)), (1, (.getfield 9, 3), (0, 3, 24)), (4, (.aload_n 0, 1), (0, 0, 0)), (5, (.getfield 35, 3), (0, 0, 18)), (8, (.lload_n 1, 1), (0, 0, 0)), (9, (.invokestatic 47, 3), (7, 4, 0)), (12, (.ireturn, 1), (0, 0, 0))]
/-- MixfixBench$Book.kindNamed -/
def X_c6 : List (Nat × (Jvm.ClassFile.Instr × Nat) × (Nat × Nat × Nat)) := [(0, (.aload_n 0, 1), (0, 0, 0)), (1, (.getfield 19, 3), (0, 5, 28)), (4, (.aload_n 0, 1), (0, 0, 0)), (5, (.getfield 39, 3), (0, 1, 20)), (8, (.lload_n 1, 1), (0, 0, 0)), (9, (.invokestatic 47, 3), (7, 4, 0)), (12, (.ireturn, 1), (0, 0, 0))]
/-- MixfixBench$Book.indexOf -/
def X_c7 : List (Nat × (Jvm.ClassFile.Instr × Nat) × (Nat × Nat × Nat)) := [(0, (.iconst 0, 1), (0, 0, 0)), (1, (.istore 4, 2), (0, 0, 0)), (3, (.iload 4, 2), (0, 0, 0)), (5, (.iload_n 1, 1), (0, 0, 0)), (6, (.if_icmp .ge 21, 3), (0, 0, 0)), (9, (.aload_n 0, 1), (0, 0, 0)), (10, (.iload 4, 2), (0, 0, 0)), (12, (.laload, 1), (0, 0, 0)), (13, (.lload_n 2, 1), (0, 0, 0)), (14, (.lcmp, 1), (0, 0, 0)), (15, (.ifCond .ne 6, 3), (0, 0, 0)), (18, (.iload 4, 2), (0, 0, 0)), (20, (.ireturn, 1), (0, 0, 0)), (21, (.iinc 4 1, 3), (0, 0, 0)), (24, (.goto (-21), 3), (0, 0, 0)), (27, (.iconst (-1), 1), (0, 0, 0)), (28, (.ireturn, 1), (0, 0, 0))]
/-- MixfixBench$Book.addRank -/
def X_c8 : List (Nat × (Jvm.ClassFile.Instr × Nat) × (Nat × Nat × Nat)) := [(0, (.aload_n 0, 1), (0, 0, 0)), (1, (.getfield 35, 3), (0, 0, 18)), (4, (.bipush 12, 2), (0, 0, 0)), (6, (.if_icmp .ge 33, 3), (0, 0, 0)), (9, (.aload_n 0, 1), (0, 0, 0)), (10, (.getfield 9, 3), (0, 3, 24)), (13, (.aload_n 0, 1), (0, 0, 0)), (14, (.getfield 35, 3), (0, 0, 18)), (17, (.lload_n 1, 1), (0, 0, 0)), (18, (.lastore, 1), (0, 0, 0)), (19, (.aload_n 0, 1), (0, 0, 0)), (20, (.getfield 15, 3), (0, 4, 26)), (23, (.aload_n 0, 1), (0, 0, 0)), (24, (.getfield 35, 3), (0, 0, 18)), (27, (.iconst 0, 1), (0, 0, 0)), (28, (.iastore, 1), (0, 0, 0)), (29, (.aload_n 0, 1), (0, 0, 0)), (30, (.dup, 1), (0, 0, 0)), (31, (.getfield 35, 3), (0, 0, 18)), (34, (.iconst 1, 1), (0, 0, 0)), (35, (.iadd, 1), (0, 0, 0)), (36, (.putfield 35, 3), (0, 0, 18)), (39, (.return_, 1), (0, 0, 0))]
/-- MixfixBench$Book.addKind -/
def X_c9 : List (Nat × (Jvm.ClassFile.Instr × Nat) × (Nat × Nat × Nat)) := [(0, (.aload_n 0, 1), (0, 0, 0)), (1, (.getfield 39, 3), (0, 1, 20)), (4, (.bipush 11, 2), (0, 0, 0)), (6, (.if_icmp .ge 53, 3), (0, 0, 0)), (9, (.aload_n 0, 1), (0, 0, 0)), (10, (.iload_n 3, 1), (0, 0, 0)), (11, (.invokevirtual 51, 3), (3, 10, 0)), (14, (.ifCond .eq 45, 3), (0, 0, 0)), (17, (.aload_n 0, 1), (0, 0, 0)), (18, (.getfield 19, 3), (0, 5, 28)), (21, (.aload_n 0, 1), (0, 0, 0)), (22, (.getfield 39, 3), (0, 1, 20)), (25, (.lload_n 1, 1), (0, 0, 0)), (26, (.lastore, 1), (0, 0, 0)), (27, (.aload_n 0, 1), (0, 0, 0)), (28, (.getfield 22, 3), (0, 6, 30)), (31, (.aload_n 0, 1), (0, 0, 0)), (32, (.getfield 39, 3), (0, 1, 20)), (35, (.aload_n 0, 1), (0, 0, 0)), (36, (.getfield 22, 3), (0, 6, 30)), (39, (.iload_n 3, 1), (0, 0, 0)), (40, (.iaload, 1), (0, 0, 0)), (41, (.iconst 1, 1), (0, 0, 0)), (42, (.aload_n 0, 1), (0, 0, 0)), (43, (.getfield 39, 3), (0, 1, 20)), (46, (.ishl, 1), (0, 0, 0)), (47, (.ior, 1), (0, 0, 0)), (48, (.iastore, 1), (0, 0, 0)), (49, (.aload_n 0, 1), (0, 0, 0)), (50, (.dup, 1), (0, 0, 0)), (51, (.getfield 39, 3), (0, 1, 20)), (54, (.iconst 1, 1), (0, 0, 0)), (55, (.iadd, 1), (0, 0, 0)), (56, (.putfield 39, 3), (0, 1, 20)), (59, (.return_, 1), (0, 0, 0))]
/-- MixfixBench$Book.setTighter -/
def X_c10 : List (Nat × (Jvm.ClassFile.Instr × Nat) × (Nat × Nat × Nat)) := [(0, (.aload_n 0, 1), (0, 0, 0)), (1, (.getfield 15, 3), (0, 4, 26)), (4, (.iload_n 2, 1), (0, 0, 0)), (5, (.iaload, 1), (0, 0, 0)), (6, (.iconst 1, 1), (0, 0, 0)), (7, (.iload_n 2, 1), (0, 0, 0)), (8, (.ishl, 1), (0, 0, 0)), (9, (.ior, 1), (0, 0, 0)), (10, (.istore_n 3, 1), (0, 0, 0)), (11, (.iconst 0, 1), (0, 0, 0)), (12, (.istore 4, 2), (0, 0, 0)), (14, (.iload 4, 2), (0, 0, 0)), (16, (.aload_n 0, 1), (0, 0, 0)), (17, (.getfield 35, 3), (0, 0, 18)), (20, (.if_icmp .ge 36, 3), (0, 0, 0)), (23, (.iload 4, 2), (0, 0, 0)), (25, (.iload_n 1, 1), (0, 0, 0)), (26, (.if_icmp .eq 13, 3), (0, 0, 0)), (29, (.aload_n 0, 1), (0, 0, 0)), (30, (.iload 4, 2), (0, 0, 0)), (32, (.iload_n 1, 1), (0, 0, 0)), (33, (.invokevirtual 55, 3), (11, 8, 0)), (36, (.ifCond .eq 14, 3), (0, 0, 0)), (39, (.aload_n 0, 1), (0, 0, 0)), (40, (.getfield 15, 3), (0, 4, 26)), (43, (.iload 4, 2), (0, 0, 0)), (45, (.dup2, 1), (0, 0, 0)), (46, (.iaload, 1), (0, 0, 0)), (47, (.iload_n 3, 1), (0, 0, 0)), (48, (.ior, 1), (0, 0, 0)), (49, (.iastore, 1), (0, 0, 0)), (50, (.iinc 4 1, 3), (0, 0, 0)), (53, (.goto (-39), 3), (0, 0, 0)), (56, (.return_, 1), (0, 0, 0))]
/-- MixfixBench$Book.isTighter -/
def X_c11 : List (Nat × (Jvm.ClassFile.Instr × Nat) × (Nat × Nat × Nat)) := [(0, (.aload_n 0, 1), (0, 0, 0)), (1, (.getfield 15, 3), (0, 4, 26)), (4, (.iload_n 1, 1), (0, 0, 0)), (5, (.iaload, 1), (0, 0, 0)), (6, (.iload_n 2, 1), (0, 0, 0)), (7, (.invokestatic 59, 3), (131, 7, 0)), (10, (.ireturn, 1), (0, 0, 0))]
/-- MixfixBench$Book.isUnder -/
def X_c12 : List (Nat × (Jvm.ClassFile.Instr × Nat) × (Nat × Nat × Nat)) := [(0, (.aload_n 0, 1), (0, 0, 0)), (1, (.getfield 22, 3), (0, 6, 30)), (4, (.iload_n 1, 1), (0, 0, 0)), (5, (.iaload, 1), (0, 0, 0)), (6, (.iload_n 2, 1), (0, 0, 0)), (7, (.invokestatic 59, 3), (131, 7, 0)), (10, (.ireturn, 1), (0, 0, 0))]
/-- MixfixBench$Book.numberKind -/
def X_c13 : List (Nat × (Jvm.ClassFile.Instr × Nat) × (Nat × Nat × Nat)) := [(0, (.aload_n 0, 1), (0, 0, 0)), (1, (.getfield 39, 3), (0, 1, 20)), (4, (.iconst 1, 1), (0, 0, 0)), (5, (.if_icmp .le 7, 3), (0, 0, 0)), (8, (.iconst 1, 1), (0, 0, 0)), (9, (.goto 4, 3), (0, 0, 0)), (12, (.iconst 0, 1), (0, 0, 0)), (13, (.ireturn, 1), (0, 0, 0))]
/-- MixfixBench$Book.kindsUnder -/
def X_c14 : List (Nat × (Jvm.ClassFile.Instr × Nat) × (Nat × Nat × Nat)) := [(0, (.iconst 0, 1), (0, 0, 0)), (1, (.istore_n 2, 1), (0, 0, 0)), (2, (.iconst 0, 1), (0, 0, 0)), (3, (.istore_n 3, 1), (0, 0, 0)), (4, (.iload_n 3, 1), (0, 0, 0)), (5, (.aload_n 0, 1), (0, 0, 0)), (6, (.getfield 39, 3), (0, 1, 20)), (9, (.if_icmp .ge 24, 3), (0, 0, 0)), (12, (.aload_n 0, 1), (0, 0, 0)), (13, (.iload_n 3, 1), (0, 0, 0)), (14, (.iload_n 1, 1), (0, 0, 0)), (15, (.invokevirtual 62, 3), (12, 16, 0)), (18, (.ifCond .eq 9, 3), (0, 0, 0)), (21, (.iload_n 2, 1), (0, 0, 0)), (22, (.iconst 1, 1), (0, 0, 0)), (23, (.iload_n 3, 1), (0, 0, 0)), (24, (.ishl, 1), (0, 0, 0)), (25, (.ior, 1), (0, 0, 0)), (26, (.istore_n 2, 1), (0, 0, 0)), (27, (.iinc 3 1, 3), (0, 0, 0)), (30, (.goto (-26), 3), (0, 0, 0)), (33, (.iload_n 2, 1), (0, 0, 0)), (34, (.ireturn, 1), (0, 0, 0))]
/-- MixfixBench$Book.wordsOfKinds -/
def X_c15 : List (Nat × (Jvm.ClassFile.Instr × Nat) × (Nat × Nat × Nat)) := [(0, (.iconst 0, 1), (0, 0, 0)), (1, (.istore_n 2, 1), (0, 0, 0)), (2, (.iconst 0, 1), (0, 0, 0)), (3, (.istore_n 3, 1), (0, 0, 0)), (4, (.iload_n 3, 1), (0, 0, 0)), (5, (.aload_n 0, 1), (0, 0, 0)), (6, (.getfield 42, 3), (0, 2, 22)), (9, (.if_icmp .ge 31, 3), (0, 0, 0)), (12, (.iload_n 1, 1), (0, 0, 0)), (13, (.aload_n 0, 1), (0, 0, 0)), (14, (.getfield 27, 3), (0, 7, 32)), (17, (.iload_n 3, 1), (0, 0, 0)), (18, (.aaload, 1), (0, 0, 0)), (19, (.getfield 65, 3), (8, 2, 5)), (22, (.invokestatic 59, 3), (131, 7, 0)), (25, (.ifCond .eq 9, 3), (0, 0, 0)), (28, (.iload_n 2, 1), (0, 0, 0)), (29, (.iconst 1, 1), (0, 0, 0)), (30, (.iload_n 3, 1), (0, 0, 0)), (31, (.ishl, 1), (0, 0, 0)), (32, (.ior, 1), (0, 0, 0)), (33, (.istore_n 2, 1), (0, 0, 0)), (34, (.iinc 3 1, 3), (0, 0, 0)), (37, (.goto (-33), 3), (0, 0, 0)), (40, (.iload_n 2, 1), (0, 0, 0)), (41, (.ireturn, 1), (0, 0, 0))]
/-- MixfixBench$Book.settleHoles -/
def X_c16 : List (Nat × (Jvm.ClassFile.Instr × Nat) × (Nat × Nat × Nat)) := [(0, (.iconst 0, 1), (0, 0, 0)), (1, (.istore_n 1, 1), (0, 0, 0)), (2, (.iload_n 1, 1), (0, 0, 0)), (3, (.aload_n 0, 1), (0, 0, 0)), (4, (.getfield 42, 3), (0, 2, 22)), (7, (.if_icmp .ge 90, 3), (0, 0, 0)), (10, (.aload_n 0, 1), (0, 0, 0)), (11, (.getfield 27, 3), (0, 7, 32)), (14, (.iload_n 1, 1), (0, 0, 0)), (15, (.aaload, 1), (0, 0, 0)), (16, (.astore_n 2, 1), (0, 0, 0)), (17, (.iconst 0, 1), (0, 0, 0)), (18, (.istore_n 3, 1), (0, 0, 0)), (19, (.iload_n 3, 1), (0, 0, 0)), (20, (.aload_n 2, 1), (0, 0, 0)), (21, (.getfield 68, 3), (8, 3, 7)), (24, (.if_icmp .ge 67, 3), (0, 0, 0)), (27, (.aload_n 2, 1), (0, 0, 0)), (28, (.iload_n 3, 1), (0, 0, 0)), (29, (.invokevirtual 71, 3), (100, 12, 0)), (32, (.ifCond .eq 53, 3), (0, 0, 0)), (35, (.aload_n 2, 1), (0, 0, 0)), (36, (.getfield 74, 3), (8, 9, 11)), (39, (.iload_n 3, 1), (0, 0, 0)), (40, (.iaload, 1), (0, 0, 0)), (41, (.istore 4, 2), (0, 0, 0)), (43, (.aload_n 0, 1), (0, 0, 0)), (44, (.aload_n 2, 1), (0, 0, 0)), (45, (.getfield 77, 3), (8, 10, 13)), (48, (.iload 4, 2), (0, 0, 0)), (50, (.iaload, 1), (0, 0, 0)), (51, (.invokevirtual 80, 3), (14, 14, 0)), (54, (.istore 5, 2), (0, 0, 0)), (56, (.aload_n 2, 1), (0, 0, 0)), (57, (.getfield 84, 3), (8, 12, 17)), (60, (.iload 4, 2), (0, 0, 0)), (62, (.iload 5, 2), (0, 0, 0)), (64, (.iastore, 1), (0, 0, 0)), (65, (.aload_n 2, 1), (0, 0, 0)), (66, (.getfield 87, 3), (8, 11, 15)), (69, (.iload 4, 2), (0, 0, 0)), (71, (.aload_n 0, 1), (0, 0, 0)), (72, (.iload 5, 2), (0, 0, 0)), (74, (.invokevirtual 90, 3), (15, 18, 0)), (77, (.aload_n 0, 1), (0, 0, 0)), (78, (.aload_n 2, 1), (0, 0, 0)), (79, (.iload_n 3, 1), (0, 0, 0)), (80, (.invokevirtual 93, 3), (17, 20, 0)), (83, (.iand, 1), (0, 0, 0)), (84, (.iastore, 1), (0, 0, 0)), (85, (.iinc 3 1, 3), (0, 0, 0)), (88, (.goto (-69), 3), (0, 0, 0)), (91, (.iinc 1 1, 3), (0, 0, 0)), (94, (.goto (-92), 3), (0, 0, 0)), (97, (.return_, 1), (0, 0, 0))]
/-- MixfixBench$Book.wordsFitting -/
def X_c17 : List (Nat × (Jvm.ClassFile.Instr × Nat) × (Nat × Nat × Nat)) := [(0, (.iload_n 2, 1), (0, 0, 0)), (1, (.ifCond .ne 7, 3), (0, 0, 0)), (4, (.iconst 1, 1), (0, 0, 0)), (5, (.goto 4, 3), (0, 0, 0)), (8, (.iconst 0, 1), (0, 0, 0)), (9, (.istore_n 3, 1), (0, 0, 0)), (10, (.iload_n 2, 1), (0, 0, 0)), (11, (.aload_n 1, 1), (0, 0, 0)), (12, (.getfield 68, 3), (8, 3, 7)), (15, (.iconst 1, 1), (0, 0, 0)), (16, (.isub, 1), (0, 0, 0)), (17, (.if_icmp .ne 7, 3), (0, 0, 0)), (20, (.iconst 1, 1), (0, 0, 0)), (21, (.goto 4, 3), (0, 0, 0)), (24, (.iconst 0, 1), (0, 0, 0)), (25, (.istore 4, 2), (0, 0, 0)), (27, (.iload_n 3, 1), (0, 0, 0)), (28, (.ifCond .eq 11, 3), (0, 0, 0)), (31, (.aload_n 1, 1), (0, 0, 0)), (32, (.getfield 97, 3), (8, 1, 3)), (35, (.iconst 1, 1), (0, 0, 0)), (36, (.if_icmp .eq 16, 3), (0, 0, 0)), (39, (.iload 4, 2), (0, 0, 0)), (41, (.ifCond .eq 15, 3), (0, 0, 0)), (44, (.aload_n 1, 1), (0, 0, 0)), (45, (.getfield 97, 3), (8, 1, 3)), (48, (.iconst 2, 1), (0, 0, 0)), (49, (.if_icmp .ne 7, 3), (0, 0, 0)), (52, (.iconst 1, 1), (0, 0, 0)), (53, (.goto 4, 3), (0, 0, 0)), (56, (.iconst 0, 1), (0, 0, 0)), (57, (.istore 5, 2), (0, 0, 0)), (59, (.iconst 0, 1), (0, 0, 0)), (60, (.istore 6, 2), (0, 0, 0)), (62, (.iconst 0, 1), (0, 0, 0)), (63, (.istore 7, 2), (0, 0, 0)), (65, (.iload 7, 2), (0, 0, 0)), (67, (.aload_n 0, 1), (0, 0, 0)), (68, (.getfield 42, 3), (0, 2, 22)), (71, (.if_icmp .ge 89, 3), (0, 0, 0)), (74, (.aload_n 0, 1), (0, 0, 0)), (75, (.getfield 27, 3), (0, 7, 32)), (78, (.iload 7, 2), (0, 0, 0)), (80, (.aaload, 1), (0, 0, 0)), (81, (.astore 8, 2), (0, 0, 0)), (83, (.iload_n 3, 1), (0, 0, 0)), (84, (.ifCond .ne 8, 3), (0, 0, 0)), (87, (.iload 4, 2), (0, 0, 0)), (89, (.ifCond .eq 44, 3), (0, 0, 0)), (92, (.aload 8, 2), (0, 0, 0)), (94, (.invokevirtual 100, 3), (102, 22, 0)), (97, (.ifCond .ne 36, 3), (0, 0, 0)), (100, (.aload_n 0, 1), (0, 0, 0)), (101, (.aload 8, 2), (0, 0, 0)), (103, (.getfield 104, 3), (8, 0, 1)), (106, (.aload_n 1, 1), (0, 0, 0)), (107, (.getfield 104, 3), (8, 0, 1)), (110, (.invokevirtual 55, 3), (11, 8, 0)), (113, (.ifCond .ne 20, 3), (0, 0, 0)), (116, (.iload 5, 2), (0, 0, 0)), (118, (.ifCond .eq 19, 3), (0, 0, 0)), (121, (.aload 8, 2), (0, 0, 0)), (123, (.getfield 104, 3), (8, 0, 1)), (126, (.aload_n 1, 1), (0, 0, 0)), (127, (.getfield 104, 3), (8, 0, 1)), (130, (.if_icmp .ne 7, 3), (0, 0, 0)), (133, (.iconst 1, 1), (0, 0, 0)), (134, (.goto 4, 3), (0, 0, 0)), (137, (.iconst 0, 1), (0, 0, 0)), (138, (.istore 9, 2), (0, 0, 0)), (140, (.iload 9, 2), (0, 0, 0)), (142, (.ifCond .eq 12, 3), (0, 0, 0)), (145, (.iload 6, 2), (0, 0, 0)), (147, (.iconst 1, 1), (0, 0, 0)), (148, (.iload 7, 2), (0, 0, 0)), (150, (.ishl, 1), (0, 0, 0)), (151, (.ior, 1), (0, 0, 0)), (152, (.istore 6, 2), (0, 0, 0)), (154, (.iinc 7 1, 3), (0, 0, 0)), (157, (.goto (-92), 3), (0, 0, 0)), (160, (.iload 6, 2), (0, 0, 0)), (162, (.ireturn, 1), (0, 0, 0))]
/-- MixfixBench$Book.isAgainst -/
def X_c18 : List (Nat × (Jvm.ClassFile.Instr × Nat) × (Nat × Nat × Nat)) := [(0, (.aload_n 0, 1), (0, 0, 0)), (1, (.getfield 27, 3), (0, 7, 32)), (4, (.iload_n 1, 1), (0, 0, 0)), (5, (.aaload, 1), (0, 0, 0)), (6, (.astore_n 3, 1), (0, 0, 0)), (7, (.aload_n 0, 1), (0, 0, 0)), (8, (.getfield 27, 3), (0, 7, 32)), (11, (.iload_n 2, 1), (0, 0, 0)), (12, (.aaload, 1), (0, 0, 0)), (13, (.astore 4, 2), (0, 0, 0)), (15, (.iload_n 1, 1), (0, 0, 0)), (16, (.iload_n 2, 1), (0, 0, 0)), (17, (.if_icmp .ne 31, 3), (0, 0, 0)), (20, (.aload_n 3, 1), (0, 0, 0)), (21, (.invokestatic 107, 3), (19, 24, 0)), (24, (.ifCond .ne 18, 3), (0, 0, 0)), (27, (.aload_n 3, 1), (0, 0, 0)), (28, (.invokevirtual 111, 3), (101, 26, 0)), (31, (.iconst 3, 1), (0, 0, 0)), (32, (.if_icmp .ne 14, 3), (0, 0, 0)), (35, (.aload_n 3, 1), (0, 0, 0)), (36, (.getfield 97, 3), (8, 1, 3)), (39, (.ifCond .ne 7, 3), (0, 0, 0)), (42, (.iconst 1, 1), (0, 0, 0)), (43, (.goto 4, 3), (0, 0, 0)), (46, (.iconst 0, 1), (0, 0, 0)), (47, (.ireturn, 1), (0, 0, 0)), (48, (.aload_n 3, 1), (0, 0, 0)), (49, (.aload 4, 2), (0, 0, 0)), (51, (.invokestatic 115, 3), (20, 28, 0)), (54, (.ifCond .eq 5, 3), (0, 0, 0)), (57, (.iconst 1, 1), (0, 0, 0)), (58, (.ireturn, 1), (0, 0, 0)), (59, (.aload_n 3, 1), (0, 0, 0)), (60, (.invokevirtual 100, 3), (102, 22, 0)), (63, (.ifCond .ne 11, 3), (0, 0, 0)), (66, (.aload 4, 2), (0, 0, 0)), (68, (.invokevirtual 100, 3), (102, 22, 0)), (71, (.ifCond .eq 5, 3), (0, 0, 0)), (74, (.iconst 0, 1), (0, 0, 0)), (75, (.ireturn, 1), (0, 0, 0)), (76, (.aload_n 3, 1), (0, 0, 0)), (77, (.getfield 104, 3), (8, 0, 1)), (80, (.aload 4, 2), (0, 0, 0)), (82, (.getfield 104, 3), (8, 0, 1)), (85, (.if_icmp .ne 26, 3), (0, 0, 0)), (88, (.aload_n 3, 1), (0, 0, 0)), (89, (.getfield 97, 3), (8, 1, 3)), (92, (.ifCond .eq 19, 3), (0, 0, 0)), (95, (.aload_n 3, 1), (0, 0, 0)), (96, (.getfield 97, 3), (8, 1, 3)), (99, (.aload 4, 2), (0, 0, 0)), (101, (.getfield 97, 3), (8, 1, 3)), (104, (.if_icmp .ne 7, 3), (0, 0, 0)), (107, (.iconst 1, 1), (0, 0, 0)), (108, (.goto 4, 3), (0, 0, 0)), (111, (.iconst 0, 1), (0, 0, 0)), (112, (.istore 5, 2), (0, 0, 0)), (114, (.iload 5, 2), (0, 0, 0)), (116, (.ifCond .ne 39, 3), (0, 0, 0)), (119, (.aload_n 0, 1), (0, 0, 0)), (120, (.aload_n 3, 1), (0, 0, 0)), (121, (.getfield 104, 3), (8, 0, 1)), (124, (.aload 4, 2), (0, 0, 0)), (126, (.getfield 104, 3), (8, 0, 1)), (129, (.invokevirtual 55, 3), (11, 8, 0)), (132, (.ifCond .ne 23, 3), (0, 0, 0)), (135, (.aload_n 0, 1), (0, 0, 0)), (136, (.aload 4, 2), (0, 0, 0)), (138, (.getfield 104, 3), (8, 0, 1)), (141, (.aload_n 3, 1), (0, 0, 0)), (142, (.getfield 104, 3), (8, 0, 1)), (145, (.invokevirtual 55, 3), (11, 8, 0)), (148, (.ifCond .ne 7, 3), (0, 0, 0)), (151, (.iconst 1, 1), (0, 0, 0)), (152, (.goto 4, 3), (0, 0, 0)), (155, (.iconst 0, 1), (0, 0, 0)), (156, (.ireturn, 1), (0, 0, 0))]
/-- MixfixBench$Book.hasPartTwice -/
def X_c19 : List (Nat × (Jvm.ClassFile.Instr × Nat) × (Nat × Nat × Nat)) := [(0, (.iconst 0, 1), (0, 0, 0)), (1, (.istore_n 1, 1), (0, 0, 0)), (2, (.iload_n 1, 1), (0, 0, 0)), (3, (.aload_n 0, 1), (0, 0, 0)), (4, (.getfield 68, 3), (8, 3, 7)), (7, (.if_icmp .ge 53, 3), (0, 0, 0)), (10, (.iload_n 1, 1), (0, 0, 0)), (11, (.iconst 1, 1), (0, 0, 0)), (12, (.iadd, 1), (0, 0, 0)), (13, (.istore_n 2, 1), (0, 0, 0)), (14, (.iload_n 2, 1), (0, 0, 0)), (15, (.aload_n 0, 1), (0, 0, 0)), (16, (.getfield 68, 3), (8, 3, 7)), (19, (.if_icmp .ge 35, 3), (0, 0, 0)), (22, (.aload_n 0, 1), (0, 0, 0)), (23, (.iload_n 1, 1), (0, 0, 0)), (24, (.invokevirtual 71, 3), (100, 12, 0)), (27, (.ifCond .ne 21, 3), (0, 0, 0)), (30, (.aload_n 0, 1), (0, 0, 0)), (31, (.getfield 119, 3), (8, 8, 9)), (34, (.iload_n 1, 1), (0, 0, 0)), (35, (.laload, 1), (0, 0, 0)), (36, (.aload_n 0, 1), (0, 0, 0)), (37, (.getfield 119, 3), (8, 8, 9)), (40, (.iload_n 2, 1), (0, 0, 0)), (41, (.laload, 1), (0, 0, 0)), (42, (.lcmp, 1), (0, 0, 0)), (43, (.ifCond .ne 5, 3), (0, 0, 0)), (46, (.iconst 1, 1), (0, 0, 0)), (47, (.ireturn, 1), (0, 0, 0)), (48, (.iinc 2 1, 3), (0, 0, 0)), (51, (.goto (-37), 3), (0, 0, 0)), (54, (.iinc 1 1, 3), (0, 0, 0)), (57, (.goto (-55), 3), (0, 0, 0)), (60, (.iconst 0, 1), (0, 0, 0)), (61, (.ireturn, 1), (0, 0, 0))]
/-- MixfixBench$Book.shareAPart -/
def X_c20 : List (Nat × (Jvm.ClassFile.Instr × Nat) × (Nat × Nat × Nat)) := [(0, (.iconst 0, 1), (0, 0, 0)), (1, (.istore_n 2, 1), (0, 0, 0)), (2, (.iload_n 2, 1), (0, 0, 0)), (3, (.aload_n 0, 1), (0, 0, 0)), (4, (.getfield 68, 3), (8, 3, 7)), (7, (.if_icmp .ge 32, 3), (0, 0, 0)), (10, (.aload_n 0, 1), (0, 0, 0)), (11, (.iload_n 2, 1), (0, 0, 0)), (12, (.invokevirtual 71, 3), (100, 12, 0)), (15, (.ifCond .ne 18, 3), (0, 0, 0)), (18, (.aload_n 1, 1), (0, 0, 0)), (19, (.aload_n 0, 1), (0, 0, 0)), (20, (.getfield 119, 3), (8, 8, 9)), (23, (.iload_n 2, 1), (0, 0, 0)), (24, (.laload, 1), (0, 0, 0)), (25, (.invokevirtual 122, 3), (103, 30, 0)), (28, (.ifCond .eq 5, 3), (0, 0, 0)), (31, (.iconst 1, 1), (0, 0, 0)), (32, (.ireturn, 1), (0, 0, 0)), (33, (.iinc 2 1, 3), (0, 0, 0)), (36, (.goto (-34), 3), (0, 0, 0)), (39, (.iconst 0, 1), (0, 0, 0)), (40, (.ireturn, 1), (0, 0, 0))]
/-- MixfixBench$Chart.<init> -/
def X_c21 : List (Nat × (Jvm.ClassFile.Instr × Nat) × (Nat × Nat × Nat)) := [(0, (.aload_n 0, 1), (0, 0, 0)), (1, (.invokespecial 3, 3), (9999, 376, 0)), (4, (.aload_n 0, 1), (0, 0, 0)), (5, (.iconst 0, 1), (0, 0, 0)), (6, (.putfield 9, 3), (1, 2, 26)), (9, (.aload_n 0, 1), (0, 0, 0)), (10, (.sipush 5115, 3), (0, 0, 0)), (13, (.newarray .long, 2), (0, 0, 0)), (15, (.putfield 15, 3), (1, 3, 28)), (18, (.aload_n 0, 1), (0, 0, 0)), (19, (.sipush 13950, 3), (0, 0, 0)), (22, (.newarray .long, 2), (0, 0, 0)), (24, (.putfield 19, 3), (1, 4, 30)), (27, (.aload_n 0, 1), (0, 0, 0)), (28, (.sipush 465, 3), (0, 0, 0)), (31, (.newarray .long, 2), (0, 0, 0)), (33, (.putfield 22, 3), (1, 5, 32)), (36, (.aload_n 0, 1), (0, 0, 0)), (37, (.ldc 25, 2), (55800, 377, 0)), (39, (.newarray .long, 2), (0, 0, 0)), (41, (.putfield 26, 3), (1, 6, 34)), (44, (.aload_n 0, 1), (0, 0, 0)), (45, (.sipush 7200, 3), (0, 0, 0)), (48, (.newarray .long, 2), (0, 0, 0)), (50, (.putfield 29, 3), (1, 7, 36)), (53, (.aload_n 0, 1), (0, 0, 0)), (54, (.aload_n 1, 1), (0, 0, 0)), (55, (.putfield 32, 3), (1, 0, 22)), (58, (.aload_n 0, 1), (0, 0, 0)), (59, (.aload_n 2, 1), (0, 0, 0)), (60, (.putfield 36, 3), (1, 1, 24)), (63, (.return_, 1), (0, 0, 0))]
/-- MixfixBench$Chart.startOver -/
def X_c22 : List (Nat × (Jvm.ClassFile.Instr × Nat) × (Nat × Nat × Nat)) := [(0, (.aload_n 0, 1), (0, 0, 0)), (1, (.aload_n 1, 1), (0, 0, 0)), (2, (.putfield 32, 3), (1, 0, 22)), (5, (.aload_n 0, 1), (0, 0, 0)), (6, (.iconst 0, 1), (0, 0, 0)), (7, (.putfield 9, 3), (1, 2, 26)), (10, (.return_, 1), (0, 0, 0))]
/-- MixfixBench$Chart.readingsOf -/
def X_c23 : List (Nat × (Jvm.ClassFile.Instr × Nat) × (Nat × Nat × Nat)) := [(0, (.aload_n 0, 1), (0, 0, 0)), (1, (.getfield 22, 3), (1, 5, 32)), (4, (.iload_n 1, 1), (0, 0, 0)), (5, (.iload_n 2, 1), (0, 0, 0)), (6, (.invokestatic 40, 3), (24, 2, 0)), (9, (.laload, 1), (0, 0, 0)), (10, (.lreturn, 1), (0, 0, 0))]
/-- MixfixBench$Chart.rowOf -/
def X_c24 : List (Nat × (Jvm.ClassFile.Instr × Nat) × (Nat × Nat × Nat)) := [(0, (.iload_n 1, 1), (0, 0, 0)), (1, (.iload_n 1, 1), (0, 0, 0)), (2, (.iconst 1, 1), (0, 0, 0)), (3, (.isub, 1), (0, 0, 0)), (4, (.imul, 1), (0, 0, 0)), (5, (.iconst 2, 1), (0, 0, 0)), (6, (.idiv, 1), (0, 0, 0)), (7, (.iload_n 0, 1), (0, 0, 0)), (8, (.iadd, 1), (0, 0, 0)), (9, (.ireturn, 1), (0, 0, 0))]
/-- MixfixBench$Chart.tailOf -/
def X_c25 : List (Nat × (Jvm.ClassFile.Instr × Nat) × (Nat × Nat × Nat)) := [(0, (.iload_n 0, 1), (0, 0, 0)), (1, (.bipush 8, 2), (0, 0, 0)), (3, (.imul, 1), (0, 0, 0)), (4, (.iload_n 1, 1), (0, 0, 0)), (5, (.iadd, 1), (0, 0, 0)), (6, (.bipush 30, 2), (0, 0, 0)), (8, (.imul, 1), (0, 0, 0)), (9, (.iload_n 2, 1), (0, 0, 0)), (10, (.iadd, 1), (0, 0, 0)), (11, (.ireturn, 1), (0, 0, 0))]
/-- MixfixBench$Chart.wordReadings -/
def X_c26 : List (Nat × (Jvm.ClassFile.Instr × Nat) × (Nat × Nat × Nat)) := [(0, (.aload_n 0, 1), (0, 0, 0)), (1, (.getfield 19, 3), (1, 4, 30)), (4, (.iload_n 1, 1), (0, 0, 0)), (5, (.iload_n 2, 1), (0, 0, 0)), (6, (.invokestatic 40, 3), (24, 2, 0)), (9, (.bipush 30, 2), (0, 0, 0)), (11, (.imul, 1), (0, 0, 0)), (12, (.iload_n 3, 1), (0, 0, 0)), (13, (.iadd, 1), (0, 0, 0)), (14, (.laload, 1), (0, 0, 0)), (15, (.lreturn, 1), (0, 0, 0))]
/-- MixfixBench$Chart.holeReadings -/
def X_c27 : List (Nat × (Jvm.ClassFile.Instr × Nat) × (Nat × Nat × Nat)) := [(0, (.aload_n 0, 1), (0, 0, 0)), (1, (.getfield 26, 3), (1, 6, 34)), (4, (.iload_n 1, 1), (0, 0, 0)), (5, (.iload_n 2, 1), (0, 0, 0)), (6, (.invokestatic 40, 3), (24, 2, 0)), (9, (.bipush 30, 2), (0, 0, 0)), (11, (.imul, 1), (0, 0, 0)), (12, (.iload_n 3, 1), (0, 0, 0)), (13, (.iadd, 1), (0, 0, 0)), (14, (.iconst 4, 1), (0, 0, 0)), (15, (.imul, 1), (0, 0, 0)), (16, (.iload 4, 2), (0, 0, 0)), (18, (.iadd, 1), (0, 0, 0)), (19, (.laload, 1), (0, 0, 0)), (20, (.lreturn, 1), (0, 0, 0))]
/-- MixfixBench$Chart.plainReadings -/
def X_c28 : List (Nat × (Jvm.ClassFile.Instr × Nat) × (Nat × Nat × Nat)) := [(0, (.aload_n 0, 1), (0, 0, 0)), (1, (.iload_n 1, 1), (0, 0, 0)), (2, (.iload_n 2, 1), (0, 0, 0)), (3, (.invokestatic 40, 3), (24, 2, 0)), (6, (.iload_n 3, 1), (0, 0, 0)), (7, (.invokevirtual 44, 3), (29, 26, 0)), (10, (.lreturn, 1), (0, 0, 0))]
/-- MixfixBench$Chart.sumOfKinds -/
def X_c29 : List (Nat × (Jvm.ClassFile.Instr × Nat) × (Nat × Nat × Nat)) := [(0, (.lconst 0, 1), (0, 0, 0)), (1, (.lstore_n 3, 1), (0, 0, 0)), (2, (.iconst 0, 1), (0, 0, 0)), (3, (.istore 5, 2), (0, 0, 0)), (5, (.iload 5, 2), (0, 0, 0)), (7, (.aload_n 0, 1), (0, 0, 0)), (8, (.getfield 32, 3), (1, 0, 22)), (11, (.getfield 48, 3), (0, 1, 13)), (14, (.if_icmp .ge 35, 3), (0, 0, 0)), (17, (.iload_n 2, 1), (0, 0, 0)), (18, (.iload 5, 2), (0, 0, 0)), (20, (.invokestatic 54, 3), (131, 29, 0)), (23, (.ifCond .eq 20, 3), (0, 0, 0)), (26, (.lload_n 3, 1), (0, 0, 0)), (27, (.aload_n 0, 1), (0, 0, 0)), (28, (.getfield 15, 3), (1, 3, 28)), (31, (.iload_n 1, 1), (0, 0, 0)), (32, (.bipush 11, 2), (0, 0, 0)), (34, (.imul, 1), (0, 0, 0)), (35, (.iload 5, 2), (0, 0, 0)), (37, (.iadd, 1), (0, 0, 0)), (38, (.laload, 1), (0, 0, 0)), (39, (.invokestatic 58, 3), (134, 17, 0)), (42, (.lstore_n 3, 1), (0, 0, 0)), (43, (.iinc 5 1, 3), (0, 0, 0)), (46, (.goto (-41), 3), (0, 0, 0)), (49, (.lload_n 3, 1), (0, 0, 0)), (50, (.lreturn, 1), (0, 0, 0))]
/-- MixfixBench$Chart.sumOfWords -/
def X_c30 : List (Nat × (Jvm.ClassFile.Instr × Nat) × (Nat × Nat × Nat)) := [(0, (.lconst 0, 1), (0, 0, 0)), (1, (.lstore_n 3, 1), (0, 0, 0)), (2, (.iconst 0, 1), (0, 0, 0)), (3, (.istore 5, 2), (0, 0, 0)), (5, (.iload 5, 2), (0, 0, 0)), (7, (.aload_n 0, 1), (0, 0, 0)), (8, (.getfield 32, 3), (1, 0, 22)), (11, (.getfield 62, 3), (0, 2, 15)), (14, (.if_icmp .ge 35, 3), (0, 0, 0)), (17, (.iload_n 2, 1), (0, 0, 0)), (18, (.iload 5, 2), (0, 0, 0)), (20, (.invokestatic 54, 3), (131, 29, 0)), (23, (.ifCond .eq 20, 3), (0, 0, 0)), (26, (.lload_n 3, 1), (0, 0, 0)), (27, (.aload_n 0, 1), (0, 0, 0)), (28, (.getfield 19, 3), (1, 4, 30)), (31, (.iload_n 1, 1), (0, 0, 0)), (32, (.bipush 30, 2), (0, 0, 0)), (34, (.imul, 1), (0, 0, 0)), (35, (.iload 5, 2), (0, 0, 0)), (37, (.iadd, 1), (0, 0, 0)), (38, (.laload, 1), (0, 0, 0)), (39, (.invokestatic 58, 3), (134, 17, 0)), (42, (.lstore_n 3, 1), (0, 0, 0)), (43, (.iinc 5 1, 3), (0, 0, 0)), (46, (.goto (-41), 3), (0, 0, 0)), (49, (.lload_n 3, 1), (0, 0, 0)), (50, (.lreturn, 1), (0, 0, 0))]
/-- MixfixBench$Chart.fill -/
def X_c31 : List (Nat × (Jvm.ClassFile.Instr × Nat) × (Nat × Nat × Nat)) := [(0, (.aload_n 0, 1), (0, 0, 0)), (1, (.getfield 9, 3), (1, 2, 26)), (4, (.ifCond .eq 4, 3), (0, 0, 0)), (7, (.return_, 1), (0, 0, 0)), (8, (.aload_n 0, 1), (0, 0, 0)), (9, (.iconst 1, 1), (0, 0, 0)), (10, (.putfield 9, 3), (1, 2, 26)), (13, (.iconst 1, 1), (0, 0, 0)), (14, (.istore_n 1, 1), (0, 0, 0)), (15, (.iload_n 1, 1), (0, 0, 0)), (16, (.aload_n 0, 1), (0, 0, 0)), (17, (.getfield 36, 3), (1, 1, 24)), (20, (.getfield 65, 3), (6, 0, 19)), (23, (.if_icmp .gt 29, 3), (0, 0, 0)), (26, (.iload_n 1, 1), (0, 0, 0)), (27, (.iconst 1, 1), (0, 0, 0)), (28, (.isub, 1), (0, 0, 0)), (29, (.istore_n 2, 1), (0, 0, 0)), (30, (.iload_n 2, 1), (0, 0, 0)), (31, (.ifCond .lt 15, 3), (0, 0, 0)), (34, (.aload_n 0, 1), (0, 0, 0)), (35, (.iload_n 2, 1), (0, 0, 0)), (36, (.iload_n 1, 1), (0, 0, 0)), (37, (.invokevirtual 70, 3), (32, 0, 0)), (40, (.iinc 2 (-1), 3), (0, 0, 0)), (43, (.goto (-13), 3), (0, 0, 0)), (46, (.iinc 1 1, 3), (0, 0, 0)), (49, (.goto (-34), 3), (0, 0, 0)), (52, (.return_, 1), (0, 0, 0))]
/-- MixfixBench$Chart.fillStretch -/
def X_c32 : List (Nat × (Jvm.ClassFile.Instr × Nat) × (Nat × Nat × Nat)) := [(0, (.iload_n 1, 1), (0, 0, 0)), (1, (.iload_n 2, 1), (0, 0, 0)), (2, (.invokestatic 40, 3), (24, 2, 0)), (5, (.istore_n 3, 1), (0, 0, 0)), (6, (.iconst 0, 1), (0, 0, 0)), (7, (.istore 4, 2), (0, 0, 0)), (9, (.iload 4, 2), (0, 0, 0)), (11, (.aload_n 0, 1), (0, 0, 0)), (12, (.getfield 32, 3), (1, 0, 22)), (15, (.getfield 62, 3), (0, 2, 15)), (18, (.if_icmp .ge 48, 3), (0, 0, 0)), (21, (.aload_n 0, 1), (0, 0, 0)), (22, (.iload 4, 2), (0, 0, 0)), (24, (.iconst 0, 1), (0, 0, 0)), (25, (.iload_n 1, 1), (0, 0, 0)), (26, (.iload_n 2, 1), (0, 0, 0)), (27, (.invokevirtual 74, 3), (37, 4, 0)), (30, (.lstore 5, 2), (0, 0, 0)), (32, (.aload_n 0, 1), (0, 0, 0)), (33, (.getfield 29, 3), (1, 7, 36)), (36, (.iload 4, 2), (0, 0, 0)), (38, (.iconst 0, 1), (0, 0, 0)), (39, (.iload_n 1, 1), (0, 0, 0)), (40, (.invokestatic 78, 3), (25, 10, 0)), (43, (.lload 5, 2), (0, 0, 0)), (45, (.lastore, 1), (0, 0, 0)), (46, (.aload_n 0, 1), (0, 0, 0)), (47, (.getfield 19, 3), (1, 4, 30)), (50, (.iload_n 3, 1), (0, 0, 0)), (51, (.bipush 30, 2), (0, 0, 0)), (53, (.imul, 1), (0, 0, 0)), (54, (.iload 4, 2), (0, 0, 0)), (56, (.iadd, 1), (0, 0, 0)), (57, (.lload 5, 2), (0, 0, 0)), (59, (.lastore, 1), (0, 0, 0)), (60, (.iinc 4 1, 3), (0, 0, 0)), (63, (.goto (-54), 3), (0, 0, 0)), (66, (.aload_n 0, 1), (0, 0, 0)), (67, (.iload_n 1, 1), (0, 0, 0)), (68, (.iload_n 2, 1), (0, 0, 0)), (69, (.invokevirtual 82, 3), (33, 18, 0)), (72, (.aload_n 0, 1), (0, 0, 0)), (73, (.getfield 22, 3), (1, 5, 32)), (76, (.iload_n 3, 1), (0, 0, 0)), (77, (.aload_n 0, 1), (0, 0, 0)), (78, (.iload_n 3, 1), (0, 0, 0)), (79, (.iconst (-1), 1), (0, 0, 0)), (80, (.invokevirtual 44, 3), (29, 26, 0)), (83, (.aload_n 0, 1), (0, 0, 0)), (84, (.iload_n 3, 1), (0, 0, 0)), (85, (.iconst (-1), 1), (0, 0, 0)), (86, (.invokevirtual 85, 3), (30, 32, 0)), (89, (.invokestatic 58, 3), (134, 17, 0)), (92, (.lastore, 1), (0, 0, 0)), (93, (.iconst 0, 1), (0, 0, 0)), (94, (.istore 4, 2), (0, 0, 0)), (96, (.iload 4, 2), (0, 0, 0)), (98, (.aload_n 0, 1), (0, 0, 0)), (99, (.getfield 32, 3), (1, 0, 22)), (102, (.getfield 62, 3), (0, 2, 15)), (105, (.if_icmp .ge 24, 3), (0, 0, 0)), (108, (.aload_n 0, 1), (0, 0, 0)), (109, (.iload_n 3, 1), (0, 0, 0)), (110, (.iload 4, 2), (0, 0, 0)), (112, (.invokevirtual 88, 3), (34, 34, 0)), (115, (.aload_n 0, 1), (0, 0, 0)), (116, (.iload 4, 2), (0, 0, 0)), (118, (.iload_n 1, 1), (0, 0, 0)), (119, (.iload_n 2, 1), (0, 0, 0)), (120, (.invokevirtual 91, 3), (35, 36, 0)), (123, (.iinc 4 1, 3), (0, 0, 0)), (126, (.goto (-30), 3), (0, 0, 0)), (129, (.return_, 1), (0, 0, 0))]
/-- MixfixBench$Chart.fillKinds -/
def X_c33 : List (Nat × (Jvm.ClassFile.Instr × Nat) × (Nat × Nat × Nat)) := [(0, (.iload_n 1, 1), (0, 0, 0)), (1, (.iload_n 2, 1), (0, 0, 0)), (2, (.invokestatic 40, 3), (24, 2, 0)), (5, (.istore_n 3, 1), (0, 0, 0)), (6, (.iconst 0, 1), (0, 0, 0)), (7, (.istore 4, 2), (0, 0, 0)), (9, (.iload 4, 2), (0, 0, 0)), (11, (.aload_n 0, 1), (0, 0, 0)), (12, (.getfield 32, 3), (1, 0, 22)), (15, (.getfield 48, 3), (0, 1, 13)), (18, (.if_icmp .ge 22, 3), (0, 0, 0)), (21, (.aload_n 0, 1), (0, 0, 0)), (22, (.getfield 15, 3), (1, 3, 28)), (25, (.iload_n 3, 1), (0, 0, 0)), (26, (.bipush 11, 2), (0, 0, 0)), (28, (.imul, 1), (0, 0, 0)), (29, (.iload 4, 2), (0, 0, 0)), (31, (.iadd, 1), (0, 0, 0)), (32, (.lconst 0, 1), (0, 0, 0)), (33, (.lastore, 1), (0, 0, 0)), (34, (.iinc 4 1, 3), (0, 0, 0)), (37, (.goto (-28), 3), (0, 0, 0)), (40, (.iload_n 2, 1), (0, 0, 0)), (41, (.iload_n 1, 1), (0, 0, 0)), (42, (.iconst 1, 1), (0, 0, 0)), (43, (.iadd, 1), (0, 0, 0)), (44, (.if_icmp .ne 35, 3), (0, 0, 0)), (47, (.aload_n 0, 1), (0, 0, 0)), (48, (.getfield 36, 3), (1, 1, 24)), (51, (.iload_n 1, 1), (0, 0, 0)), (52, (.invokevirtual 95, 3), (88, 20, 0)), (55, (.ifCond .eq 112, 3), (0, 0, 0)), (58, (.aload_n 0, 1), (0, 0, 0)), (59, (.getfield 15, 3), (1, 3, 28)), (62, (.iload_n 3, 1), (0, 0, 0)), (63, (.bipush 11, 2), (0, 0, 0)), (65, (.imul, 1), (0, 0, 0)), (66, (.aload_n 0, 1), (0, 0, 0)), (67, (.getfield 32, 3), (1, 0, 22)), (70, (.invokevirtual 99, 3), (13, 22, 0)), (73, (.iadd, 1), (0, 0, 0)), (74, (.lconst 1, 1), (0, 0, 0)), (75, (.lastore, 1), (0, 0, 0)), (76, (.goto 91, 3), (0, 0, 0)), (79, (.aload_n 0, 1), (0, 0, 0)), (80, (.getfield 36, 3), (1, 1, 24)), (83, (.iload_n 1, 1), (0, 0, 0)), (84, (.iload_n 2, 1), (0, 0, 0)), (85, (.invokevirtual 103, 3), (90, 24, 0)), (88, (.ifCond .eq 79, 3), (0, 0, 0)), (91, (.iload_n 1, 1), (0, 0, 0)), (92, (.iconst 1, 1), (0, 0, 0)), (93, (.iadd, 1), (0, 0, 0)), (94, (.iload_n 2, 1), (0, 0, 0)), (95, (.iconst 1, 1), (0, 0, 0)), (96, (.isub, 1), (0, 0, 0)), (97, (.invokestatic 40, 3), (24, 2, 0)), (100, (.istore 4, 2), (0, 0, 0)), (102, (.iconst 0, 1), (0, 0, 0)), (103, (.istore 5, 2), (0, 0, 0)), (105, (.iload 5, 2), (0, 0, 0)), (107, (.aload_n 0, 1), (0, 0, 0)), (108, (.getfield 32, 3), (1, 0, 22)), (111, (.getfield 48, 3), (0, 1, 13)), (114, (.if_icmp .ge 53, 3), (0, 0, 0)), (117, (.iconst 1, 1), (0, 0, 0)), (118, (.iload 5, 2), (0, 0, 0)), (120, (.ishl, 1), (0, 0, 0)), (121, (.istore 6, 2), (0, 0, 0)), (123, (.aload_n 0, 1), (0, 0, 0)), (124, (.getfield 15, 3), (1, 3, 28)), (127, (.iload_n 3, 1), (0, 0, 0)), (128, (.bipush 11, 2), (0, 0, 0)), (130, (.imul, 1), (0, 0, 0)), (131, (.iload 5, 2), (0, 0, 0)), (133, (.iadd, 1), (0, 0, 0)), (134, (.aload_n 0, 1), (0, 0, 0)), (135, (.iload 4, 2), (0, 0, 0)), (137, (.iload 6, 2), (0, 0, 0)), (139, (.invokevirtual 44, 3), (29, 26, 0)), (142, (.aload_n 0, 1), (0, 0, 0)), (143, (.iload 4, 2), (0, 0, 0)), (145, (.aload_n 0, 1), (0, 0, 0)), (146, (.getfield 32, 3), (1, 0, 22)), (149, (.iload 6, 2), (0, 0, 0)), (151, (.invokevirtual 106, 3), (15, 30, 0)), (154, (.invokevirtual 85, 3), (30, 32, 0)), (157, (.invokestatic 58, 3), (134, 17, 0)), (160, (.lastore, 1), (0, 0, 0)), (161, (.iinc 5 1, 3), (0, 0, 0)), (164, (.goto (-59), 3), (0, 0, 0)), (167, (.return_, 1), (0, 0, 0))]
/-- MixfixBench$Chart.fillHoles -/
def X_c34 : List (Nat × (Jvm.ClassFile.Instr × Nat) × (Nat × Nat × Nat)) := [(0, (.aload_n 0, 1), (0, 0, 0)), (1, (.getfield 32, 3), (1, 0, 22)), (4, (.getfield 110, 3), (0, 7, 17)), (7, (.iload_n 2, 1), (0, 0, 0)), (8, (.aaload, 1), (0, 0, 0)), (9, (.astore_n 3, 1), (0, 0, 0)), (10, (.iconst 0, 1), (0, 0, 0)), (11, (.istore 4, 2), (0, 0, 0)), (13, (.iload 4, 2), (0, 0, 0)), (15, (.aload_n 3, 1), (0, 0, 0)), (16, (.getfield 114, 3), (8, 4, 3)), (19, (.if_icmp .ge 70, 3), (0, 0, 0)), (22, (.lconst 0, 1), (0, 0, 0)), (23, (.lstore 5, 2), (0, 0, 0)), (25, (.aload_n 0, 1), (0, 0, 0)), (26, (.getfield 22, 3), (1, 5, 32)), (29, (.iload_n 1, 1), (0, 0, 0)), (30, (.laload, 1), (0, 0, 0)), (31, (.lconst 0, 1), (0, 0, 0)), (32, (.lcmp, 1), (0, 0, 0)), (33, (.ifCond .eq 32, 3), (0, 0, 0)), (36, (.aload_n 0, 1), (0, 0, 0)), (37, (.iload_n 1, 1), (0, 0, 0)), (38, (.aload_n 3, 1), (0, 0, 0)), (39, (.getfield 119, 3), (8, 12, 11)), (42, (.iload 4, 2), (0, 0, 0)), (44, (.iaload, 1), (0, 0, 0)), (45, (.invokevirtual 44, 3), (29, 26, 0)), (48, (.aload_n 0, 1), (0, 0, 0)), (49, (.iload_n 1, 1), (0, 0, 0)), (50, (.aload_n 3, 1), (0, 0, 0)), (51, (.getfield 123, 3), (8, 11, 9)), (54, (.iload 4, 2), (0, 0, 0)), (56, (.iaload, 1), (0, 0, 0)), (57, (.invokevirtual 85, 3), (30, 32, 0)), (60, (.invokestatic 58, 3), (134, 17, 0)), (63, (.lstore 5, 2), (0, 0, 0)), (65, (.aload_n 0, 1), (0, 0, 0)), (66, (.getfield 26, 3), (1, 6, 34)), (69, (.iload_n 1, 1), (0, 0, 0)), (70, (.bipush 30, 2), (0, 0, 0)), (72, (.imul, 1), (0, 0, 0)), (73, (.iload_n 2, 1), (0, 0, 0)), (74, (.iadd, 1), (0, 0, 0)), (75, (.iconst 4, 1), (0, 0, 0)), (76, (.imul, 1), (0, 0, 0)), (77, (.iload 4, 2), (0, 0, 0)), (79, (.iadd, 1), (0, 0, 0)), (80, (.lload 5, 2), (0, 0, 0)), (82, (.lastore, 1), (0, 0, 0)), (83, (.iinc 4 1, 3), (0, 0, 0)), (86, (.goto (-73), 3), (0, 0, 0)), (89, (.return_, 1), (0, 0, 0))]
/-- MixfixBench$Chart.fillTails -/
def X_c35 : List (Nat × (Jvm.ClassFile.Instr × Nat) × (Nat × Nat × Nat)) := [(0, (.iconst 1, 1), (0, 0, 0)), (1, (.istore 4, 2), (0, 0, 0)), (3, (.iload 4, 2), (0, 0, 0)), (5, (.aload_n 0, 1), (0, 0, 0)), (6, (.getfield 32, 3), (1, 0, 22)), (9, (.getfield 110, 3), (0, 7, 17)), (12, (.iload_n 1, 1), (0, 0, 0)), (13, (.aaload, 1), (0, 0, 0)), (14, (.getfield 126, 3), (8, 3, 1)), (17, (.if_icmp .ge 30, 3), (0, 0, 0)), (20, (.aload_n 0, 1), (0, 0, 0)), (21, (.getfield 29, 3), (1, 7, 36)), (24, (.iload_n 1, 1), (0, 0, 0)), (25, (.iload 4, 2), (0, 0, 0)), (27, (.iload_n 2, 1), (0, 0, 0)), (28, (.invokestatic 78, 3), (25, 10, 0)), (31, (.aload_n 0, 1), (0, 0, 0)), (32, (.iload_n 1, 1), (0, 0, 0)), (33, (.iload 4, 2), (0, 0, 0)), (35, (.iload_n 2, 1), (0, 0, 0)), (36, (.iload_n 3, 1), (0, 0, 0)), (37, (.invokevirtual 74, 3), (37, 4, 0)), (40, (.lastore, 1), (0, 0, 0)), (41, (.iinc 4 1, 3), (0, 0, 0)), (44, (.goto (-41), 3), (0, 0, 0)), (47, (.return_, 1), (0, 0, 0))]
/-- MixfixBench$Chart.prepareTails -/
def X_c36 : List (Nat × (Jvm.ClassFile.Instr × Nat) × (Nat × Nat × Nat)) := [(0, (.iload_n 3, 1), (0, 0, 0)), (1, (.iconst 1, 1), (0, 0, 0)), (2, (.isub, 1), (0, 0, 0)), (3, (.istore 4, 2), (0, 0, 0)), (5, (.iload 4, 2), (0, 0, 0)), (7, (.iload_n 2, 1), (0, 0, 0)), (8, (.if_icmp .le 58, 3), (0, 0, 0)), (11, (.iconst 1, 1), (0, 0, 0)), (12, (.istore 5, 2), (0, 0, 0)), (14, (.iload 5, 2), (0, 0, 0)), (16, (.aload_n 0, 1), (0, 0, 0)), (17, (.getfield 32, 3), (1, 0, 22)), (20, (.getfield 110, 3), (0, 7, 17)), (23, (.iload_n 1, 1), (0, 0, 0)), (24, (.aaload, 1), (0, 0, 0)), (25, (.getfield 126, 3), (8, 3, 1)), (28, (.if_icmp .ge 32, 3), (0, 0, 0)), (31, (.aload_n 0, 1), (0, 0, 0)), (32, (.getfield 29, 3), (1, 7, 36)), (35, (.iload_n 1, 1), (0, 0, 0)), (36, (.iload 5, 2), (0, 0, 0)), (38, (.iload 4, 2), (0, 0, 0)), (40, (.invokestatic 78, 3), (25, 10, 0)), (43, (.aload_n 0, 1), (0, 0, 0)), (44, (.iload_n 1, 1), (0, 0, 0)), (45, (.iload 5, 2), (0, 0, 0)), (47, (.iload 4, 2), (0, 0, 0)), (49, (.iload_n 3, 1), (0, 0, 0)), (50, (.invokevirtual 74, 3), (37, 4, 0)), (53, (.lastore, 1), (0, 0, 0)), (54, (.iinc 5 1, 3), (0, 0, 0)), (57, (.goto (-43), 3), (0, 0, 0)), (60, (.iinc 4 (-1), 3), (0, 0, 0)), (63, (.goto (-58), 3), (0, 0, 0)), (66, (.return_, 1), (0, 0, 0))]
/-- MixfixBench$Chart.ways -/
def X_c37 : List (Nat × (Jvm.ClassFile.Instr × Nat) × (Nat × Nat × Nat)) := [(0, (.aload_n 0, 1), (0, 0, 0)), (1, (.getfield 32, 3), (1, 0, 22)), (4, (.getfield 110, 3), (0, 7, 17)), (7, (.iload_n 1, 1), (0, 0, 0)), (8, (.aaload, 1), (0, 0, 0)), (9, (.astore 5, 2), (0, 0, 0)), (11, (.aload 5, 2), (0, 0, 0)), (13, (.iload_n 2, 1), (0, 0, 0)), (14, (.invokevirtual 129, 3), (100, 6, 0)), (17, (.ifCond .ne 53, 3), (0, 0, 0)), (20, (.aload 5, 2), (0, 0, 0)), (22, (.getfield 132, 3), (8, 8, 5)), (25, (.iload_n 2, 1), (0, 0, 0)), (26, (.laload, 1), (0, 0, 0)), (27, (.aload_n 0, 1), (0, 0, 0)), (28, (.getfield 36, 3), (1, 1, 24)), (31, (.getfield 135, 3), (6, 1, 21)), (34, (.iload_n 3, 1), (0, 0, 0)), (35, (.laload, 1), (0, 0, 0)), (36, (.lcmp, 1), (0, 0, 0)), (37, (.ifCond .ne 7, 3), (0, 0, 0)), (40, (.iconst 1, 1), (0, 0, 0)), (41, (.goto 4, 3), (0, 0, 0)), (44, (.iconst 0, 1), (0, 0, 0)), (45, (.istore 6, 2), (0, 0, 0)), (47, (.iload 6, 2), (0, 0, 0)), (49, (.ifCond .eq 19, 3), (0, 0, 0)), (52, (.aload_n 0, 1), (0, 0, 0)), (53, (.iload_n 1, 1), (0, 0, 0)), (54, (.iload_n 2, 1), (0, 0, 0)), (55, (.iconst 1, 1), (0, 0, 0)), (56, (.iadd, 1), (0, 0, 0)), (57, (.iload_n 3, 1), (0, 0, 0)), (58, (.iconst 1, 1), (0, 0, 0)), (59, (.iadd, 1), (0, 0, 0)), (60, (.iload 4, 2), (0, 0, 0)), (62, (.invokevirtual 138, 3), (38, 8, 0)), (65, (.goto 4, 3), (0, 0, 0)), (68, (.lconst 0, 1), (0, 0, 0)), (69, (.lreturn, 1), (0, 0, 0)), (70, (.aload 5, 2), (0, 0, 0)), (72, (.getfield 141, 3), (8, 9, 7)), (75, (.iload_n 2, 1), (0, 0, 0)), (76, (.iaload, 1), (0, 0, 0)), (77, (.istore 6, 2), (0, 0, 0)), (79, (.lconst 0, 1), (0, 0, 0)), (80, (.lstore 7, 2), (0, 0, 0)), (82, (.iload_n 3, 1), (0, 0, 0)), (83, (.iconst 1, 1), (0, 0, 0)), (84, (.iadd, 1), (0, 0, 0)), (85, (.istore 9, 2), (0, 0, 0)), (87, (.iload 9, 2), (0, 0, 0)), (89, (.iload 4, 2), (0, 0, 0)), (91, (.if_icmp .gt 52, 3), (0, 0, 0)), (94, (.aload_n 0, 1), (0, 0, 0)), (95, (.iload_n 1, 1), (0, 0, 0)), (96, (.iload_n 2, 1), (0, 0, 0)), (97, (.iconst 1, 1), (0, 0, 0)), (98, (.iadd, 1), (0, 0, 0)), (99, (.iload 9, 2), (0, 0, 0)), (101, (.iload 4, 2), (0, 0, 0)), (103, (.invokevirtual 138, 3), (38, 8, 0)), (106, (.lstore 10, 2), (0, 0, 0)), (108, (.lload 10, 2), (0, 0, 0)), (110, (.lconst 0, 1), (0, 0, 0)), (111, (.lcmp, 1), (0, 0, 0)), (112, (.ifCond .eq 25, 3), (0, 0, 0)), (115, (.lload 7, 2), (0, 0, 0)), (117, (.aload_n 0, 1), (0, 0, 0)), (118, (.iload_n 3, 1), (0, 0, 0)), (119, (.iload 9, 2), (0, 0, 0)), (121, (.iload_n 1, 1), (0, 0, 0)), (122, (.iload 6, 2), (0, 0, 0)), (124, (.invokevirtual 144, 3), (27, 12, 0)), (127, (.lload 10, 2), (0, 0, 0)), (129, (.invokestatic 147, 3), (135, 15, 0)), (132, (.invokestatic 58, 3), (134, 17, 0)), (135, (.lstore 7, 2), (0, 0, 0)), (137, (.iinc 9 1, 3), (0, 0, 0)), (140, (.goto (-53), 3), (0, 0, 0)), (143, (.lload 7, 2), (0, 0, 0)), (145, (.lreturn, 1), (0, 0, 0))]
/-- MixfixBench$Chart.tail -/
def X_c38 : List (Nat × (Jvm.ClassFile.Instr × Nat) × (Nat × Nat × Nat)) := [(0, (.iload_n 2, 1), (0, 0, 0)), (1, (.aload_n 0, 1), (0, 0, 0)), (2, (.getfield 32, 3), (1, 0, 22)), (5, (.getfield 110, 3), (0, 7, 17)), (8, (.iload_n 1, 1), (0, 0, 0)), (9, (.aaload, 1), (0, 0, 0)), (10, (.getfield 126, 3), (8, 3, 1)), (13, (.if_icmp .ne 7, 3), (0, 0, 0)), (16, (.iconst 1, 1), (0, 0, 0)), (17, (.goto 4, 3), (0, 0, 0)), (20, (.iconst 0, 1), (0, 0, 0)), (21, (.istore 5, 2), (0, 0, 0)), (23, (.iload_n 3, 1), (0, 0, 0)), (24, (.iload 4, 2), (0, 0, 0)), (26, (.if_icmp .ne 14, 3), (0, 0, 0)), (29, (.iload 5, 2), (0, 0, 0)), (31, (.ifCond .eq 7, 3), (0, 0, 0)), (34, (.lconst 1, 1), (0, 0, 0)), (35, (.goto 4, 3), (0, 0, 0)), (38, (.lconst 0, 1), (0, 0, 0)), (39, (.lreturn, 1), (0, 0, 0)), (40, (.iload 5, 2), (0, 0, 0)), (42, (.ifCond .eq 7, 3), (0, 0, 0)), (45, (.lconst 0, 1), (0, 0, 0)), (46, (.goto 14, 3), (0, 0, 0)), (49, (.aload_n 0, 1), (0, 0, 0)), (50, (.getfield 29, 3), (1, 7, 36)), (53, (.iload_n 1, 1), (0, 0, 0)), (54, (.iload_n 2, 1), (0, 0, 0)), (55, (.iload_n 3, 1), (0, 0, 0)), (56, (.invokestatic 78, 3), (25, 10, 0)), (59, (.laload, 1), (0, 0, 0)), (60, (.lreturn, 1), (0, 0, 0))]
/-- MixfixBench$Finder.<init> -/
def X_c39 : List (Nat × (Jvm.ClassFile.Instr × Nat) × (Nat × Nat × Nat)) := [(0, (.aload_n 0, 1), (0, 0, 0)), (1, (.invokespecial 3, 3), (9999, 409, 0)), (4, (.aload_n 0, 1), (0, 0, 0)), (5, (.iconst 0, 1), (0, 0, 0)), (6, (.putfield 9, 3), (2, 3, 24)), (9, (.aload_n 0, 1), (0, 0, 0)), (10, (.bipush 30, 2), (0, 0, 0)), (12, (.newarray .int, 2), (0, 0, 0)), (14, (.putfield 15, 3), (2, 4, 26)), (17, (.aload_n 0, 1), (0, 0, 0)), (18, (.bipush 30, 2), (0, 0, 0)), (20, (.newarray .int, 2), (0, 0, 0)), (22, (.putfield 19, 3), (2, 5, 28)), (25, (.aload_n 0, 1), (0, 0, 0)), (26, (.bipush 30, 2), (0, 0, 0)), (28, (.newarray .int, 2), (0, 0, 0)), (30, (.putfield 22, 3), (2, 6, 30)), (33, (.aload_n 0, 1), (0, 0, 0)), (34, (.bipush 30, 2), (0, 0, 0)), (36, (.newarray .int, 2), (0, 0, 0)), (38, (.putfield 25, 3), (2, 7, 32)), (41, (.aload_n 0, 1), (0, 0, 0)), (42, (.bipush 30, 2), (0, 0, 0)), (44, (.newarray .int, 2), (0, 0, 0)), (46, (.putfield 28, 3), (2, 8, 34)), (49, (.aload_n 0, 1), (0, 0, 0)), (50, (.bipush 30, 2), (0, 0, 0)), (52, (.newarray .int, 2), (0, 0, 0)), (54, (.putfield 31, 3), (2, 9, 36)), (57, (.aload_n 0, 1), (0, 0, 0)), (58, (.bipush 30, 2), (0, 0, 0)), (60, (.newarray .long, 2), (0, 0, 0)), (62, (.putfield 34, 3), (2, 10, 38)), (65, (.aload_n 0, 1), (0, 0, 0)), (66, (.iconst 4, 1), (0, 0, 0)), (67, (.newarray .int, 2), (0, 0, 0)), (69, (.putfield 38, 3), (2, 11, 40)), (72, (.aload_n 0, 1), (0, 0, 0)), (73, (.iconst 4, 1), (0, 0, 0)), (74, (.newarray .int, 2), (0, 0, 0)), (76, (.putfield 41, 3), (2, 12, 42)), (79, (.aload_n 0, 1), (0, 0, 0)), (80, (.aload_n 1, 1), (0, 0, 0)), (81, (.putfield 44, 3), (2, 0, 18)), (84, (.aload_n 0, 1), (0, 0, 0)), (85, (.aload_n 2, 1), (0, 0, 0)), (86, (.putfield 48, 3), (2, 1, 20)), (89, (.aload_n 0, 1), (0, 0, 0)), (90, (.aload_n 3, 1), (0, 0, 0)), (91, (.putfield 52, 3), (2, 2, 22)), (94, (.return_, 1), (0, 0, 0))]
/-- MixfixBench$Finder.find -/
def X_c40 : List (Nat × (Jvm.ClassFile.Instr × Nat) × (Nat × Nat × Nat)) := [(0, (.aload_n 0, 1), (0, 0, 0)), (1, (.getfield 52, 3), (2, 2, 22)), (4, (.invokevirtual 56, 3), (83, 0, 0)), (7, (.aload_n 0, 1), (0, 0, 0)), (8, (.iconst 0, 1), (0, 0, 0)), (9, (.putfield 9, 3), (2, 3, 24)), (12, (.aload_n 0, 1), (0, 0, 0)), (13, (.iconst 0, 1), (0, 0, 0)), (14, (.aload_n 0, 1), (0, 0, 0)), (15, (.getfield 48, 3), (2, 1, 20)), (18, (.getfield 61, 3), (6, 0, 15)), (21, (.iconst (-1), 1), (0, 0, 0)), (22, (.iconst (-1), 1), (0, 0, 0)), (23, (.invokevirtual 66, 3), (41, 2, 0)), (26, (.aload_n 0, 1), (0, 0, 0)), (27, (.iconst (-1), 1), (0, 0, 0)), (28, (.iconst (-1), 1), (0, 0, 0)), (29, (.lload_n 1, 1), (0, 0, 0)), (30, (.invokevirtual 70, 3), (42, 4, 0)), (33, (.iconst 0, 1), (0, 0, 0)), (34, (.istore_n 3, 1), (0, 0, 0)), (35, (.iload_n 3, 1), (0, 0, 0)), (36, (.bipush 30, 2), (0, 0, 0)), (38, (.if_icmp .ge 20, 3), (0, 0, 0)), (41, (.aload_n 0, 1), (0, 0, 0)), (42, (.getfield 9, 3), (2, 3, 24)), (45, (.ifCond .le 13, 3), (0, 0, 0)), (48, (.aload_n 0, 1), (0, 0, 0)), (49, (.invokevirtual 74, 3), (43, 6, 0)), (52, (.iinc 3 1, 3), (0, 0, 0)), (55, (.goto (-20), 3), (0, 0, 0)), (58, (.return_, 1), (0, 0, 0))]
/-- MixfixBench$Finder.await -/
def X_c41 : List (Nat × (Jvm.ClassFile.Instr × Nat) × (Nat × Nat × Nat)) := [(0, (.aload_n 0, 1), (0, 0, 0)), (1, (.getfield 9, 3), (2, 3, 24)), (4, (.bipush 30, 2), (0, 0, 0)), (6, (.if_icmp .ge 54, 3), (0, 0, 0)), (9, (.aload_n 0, 1), (0, 0, 0)), (10, (.getfield 15, 3), (2, 4, 26)), (13, (.aload_n 0, 1), (0, 0, 0)), (14, (.getfield 9, 3), (2, 3, 24)), (17, (.iload_n 1, 1), (0, 0, 0)), (18, (.iastore, 1), (0, 0, 0)), (19, (.aload_n 0, 1), (0, 0, 0)), (20, (.getfield 19, 3), (2, 5, 28)), (23, (.aload_n 0, 1), (0, 0, 0)), (24, (.getfield 9, 3), (2, 3, 24)), (27, (.iload_n 2, 1), (0, 0, 0)), (28, (.iastore, 1), (0, 0, 0)), (29, (.aload_n 0, 1), (0, 0, 0)), (30, (.getfield 22, 3), (2, 6, 30)), (33, (.aload_n 0, 1), (0, 0, 0)), (34, (.getfield 9, 3), (2, 3, 24)), (37, (.iload_n 3, 1), (0, 0, 0)), (38, (.iastore, 1), (0, 0, 0)), (39, (.aload_n 0, 1), (0, 0, 0)), (40, (.getfield 25, 3), (2, 7, 32)), (43, (.aload_n 0, 1), (0, 0, 0)), (44, (.getfield 9, 3), (2, 3, 24)), (47, (.iload 4, 2), (0, 0, 0)), (49, (.iastore, 1), (0, 0, 0)), (50, (.aload_n 0, 1), (0, 0, 0)), (51, (.dup, 1), (0, 0, 0)), (52, (.getfield 9, 3), (2, 3, 24)), (55, (.iconst 1, 1), (0, 0, 0)), (56, (.iadd, 1), (0, 0, 0)), (57, (.putfield 9, 3), (2, 3, 24)), (60, (.return_, 1), (0, 0, 0))]
/-- MixfixBench$Finder.demand -/
def X_c42 : List (Nat × (Jvm.ClassFile.Instr × Nat) × (Nat × Nat × Nat)) := [(0, (.aload_n 0, 1), (0, 0, 0)), (1, (.getfield 9, 3), (2, 3, 24)), (4, (.ifCond .le 39, 3), (0, 0, 0)), (7, (.aload_n 0, 1), (0, 0, 0)), (8, (.getfield 28, 3), (2, 8, 34)), (11, (.aload_n 0, 1), (0, 0, 0)), (12, (.getfield 9, 3), (2, 3, 24)), (15, (.iconst 1, 1), (0, 0, 0)), (16, (.isub, 1), (0, 0, 0)), (17, (.iload_n 1, 1), (0, 0, 0)), (18, (.iastore, 1), (0, 0, 0)), (19, (.aload_n 0, 1), (0, 0, 0)), (20, (.getfield 31, 3), (2, 9, 36)), (23, (.aload_n 0, 1), (0, 0, 0)), (24, (.getfield 9, 3), (2, 3, 24)), (27, (.iconst 1, 1), (0, 0, 0)), (28, (.isub, 1), (0, 0, 0)), (29, (.iload_n 2, 1), (0, 0, 0)), (30, (.iastore, 1), (0, 0, 0)), (31, (.aload_n 0, 1), (0, 0, 0)), (32, (.getfield 34, 3), (2, 10, 38)), (35, (.aload_n 0, 1), (0, 0, 0)), (36, (.getfield 9, 3), (2, 3, 24)), (39, (.iconst 1, 1), (0, 0, 0)), (40, (.isub, 1), (0, 0, 0)), (41, (.lload_n 3, 1), (0, 0, 0)), (42, (.lastore, 1), (0, 0, 0)), (43, (.return_, 1), (0, 0, 0))]
/-- MixfixBench$Finder.makeNode -/
def X_c43 : List (Nat × (Jvm.ClassFile.Instr × Nat) × (Nat × Nat × Nat)) := [(0, (.aload_n 0, 1), (0, 0, 0)), (1, (.dup, 1), (0, 0, 0)), (2, (.getfield 9, 3), (2, 3, 24)), (5, (.iconst 1, 1), (0, 0, 0)), (6, (.isub, 1), (0, 0, 0)), (7, (.putfield 9, 3), (2, 3, 24)), (10, (.aload_n 0, 1), (0, 0, 0)), (11, (.getfield 9, 3), (2, 3, 24)), (14, (.istore_n 1, 1), (0, 0, 0)), (15, (.aload_n 0, 1), (0, 0, 0)), (16, (.getfield 15, 3), (2, 4, 26)), (19, (.iload_n 1, 1), (0, 0, 0)), (20, (.iaload, 1), (0, 0, 0)), (21, (.istore_n 2, 1), (0, 0, 0)), (22, (.aload_n 0, 1), (0, 0, 0)), (23, (.getfield 19, 3), (2, 5, 28)), (26, (.iload_n 1, 1), (0, 0, 0)), (27, (.iaload, 1), (0, 0, 0)), (28, (.iload_n 2, 1), (0, 0, 0)), (29, (.isub, 1), (0, 0, 0)), (30, (.istore_n 3, 1), (0, 0, 0)), (31, (.aload_n 0, 1), (0, 0, 0)), (32, (.iload_n 1, 1), (0, 0, 0)), (33, (.invokevirtual 77, 3), (44, 8, 0)), (36, (.istore 4, 2), (0, 0, 0)), (38, (.iload 4, 2), (0, 0, 0)), (40, (.iconst (-1), 1), (0, 0, 0)), (41, (.if_icmp .ne 17, 3), (0, 0, 0)), (44, (.iload_n 3, 1), (0, 0, 0)), (45, (.iconst 1, 1), (0, 0, 0)), (46, (.if_icmp .ne 8, 3), (0, 0, 0)), (49, (.bipush (-2), 2), (0, 0, 0)), (51, (.goto 5, 3), (0, 0, 0)), (54, (.bipush (-3), 2), (0, 0, 0)), (56, (.istore 4, 2), (0, 0, 0)), (58, (.aload_n 0, 1), (0, 0, 0)), (59, (.getfield 52, 3), (2, 2, 22)), (62, (.iload 4, 2), (0, 0, 0)), (64, (.iload_n 2, 1), (0, 0, 0)), (65, (.iload_n 3, 1), (0, 0, 0)), (66, (.aload_n 0, 1), (0, 0, 0)), (67, (.getfield 22, 3), (2, 6, 30)), (70, (.iload_n 1, 1), (0, 0, 0)), (71, (.iaload, 1), (0, 0, 0)), (72, (.aload_n 0, 1), (0, 0, 0)), (73, (.getfield 25, 3), (2, 7, 32)), (76, (.iload_n 1, 1), (0, 0, 0)), (77, (.iaload, 1), (0, 0, 0)), (78, (.invokevirtual 81, 3), (84, 16, 0)), (81, (.istore 5, 2), (0, 0, 0)), (83, (.iload 4, 2), (0, 0, 0)), (85, (.ifCond .lt 43, 3), (0, 0, 0)), (88, (.aload_n 0, 1), (0, 0, 0)), (89, (.getfield 44, 3), (2, 0, 18)), (92, (.iload 4, 2), (0, 0, 0)), (94, (.iload_n 2, 1), (0, 0, 0)), (95, (.iload_n 2, 1), (0, 0, 0)), (96, (.iload_n 3, 1), (0, 0, 0)), (97, (.iadd, 1), (0, 0, 0)), (98, (.invokevirtual 85, 3), (36, 18, 0)), (101, (.aload_n 0, 1), (0, 0, 0)), (102, (.iload 4, 2), (0, 0, 0)), (104, (.iload 5, 2), (0, 0, 0)), (106, (.aload_n 0, 1), (0, 0, 0)), (107, (.iload 4, 2), (0, 0, 0)), (109, (.iload_n 2, 1), (0, 0, 0)), (110, (.iload_n 2, 1), (0, 0, 0)), (111, (.iload_n 3, 1), (0, 0, 0)), (112, (.iadd, 1), (0, 0, 0)), (113, (.aload_n 0, 1), (0, 0, 0)), (114, (.getfield 34, 3), (2, 10, 38)), (117, (.iload_n 1, 1), (0, 0, 0)), (118, (.laload, 1), (0, 0, 0)), (119, (.invokevirtual 91, 3), (45, 20, 0)), (122, (.invokevirtual 95, 3), (46, 30, 0)), (125, (.goto 61, 3), (0, 0, 0)), (128, (.iload 4, 2), (0, 0, 0)), (130, (.bipush (-3), 2), (0, 0, 0)), (132, (.if_icmp .ne 54, 3), (0, 0, 0)), (135, (.aload_n 0, 1), (0, 0, 0)), (136, (.getfield 31, 3), (2, 9, 36)), (139, (.iload_n 1, 1), (0, 0, 0)), (140, (.iaload, 1), (0, 0, 0)), (141, (.istore 6, 2), (0, 0, 0)), (143, (.aload_n 0, 1), (0, 0, 0)), (144, (.getfield 34, 3), (2, 10, 38)), (147, (.iload_n 1, 1), (0, 0, 0)), (148, (.laload, 1), (0, 0, 0)), (149, (.lstore 7, 2), (0, 0, 0)), (151, (.aload_n 0, 1), (0, 0, 0)), (152, (.iload_n 2, 1), (0, 0, 0)), (153, (.iconst 1, 1), (0, 0, 0)), (154, (.iadd, 1), (0, 0, 0)), (155, (.iload_n 2, 1), (0, 0, 0)), (156, (.iload_n 3, 1), (0, 0, 0)), (157, (.iadd, 1), (0, 0, 0)), (158, (.iconst 1, 1), (0, 0, 0)), (159, (.isub, 1), (0, 0, 0)), (160, (.iload 5, 2), (0, 0, 0)), (162, (.iconst 0, 1), (0, 0, 0)), (163, (.invokevirtual 66, 3), (41, 2, 0)), (166, (.aload_n 0, 1), (0, 0, 0)), (167, (.aload_n 0, 1), (0, 0, 0)), (168, (.getfield 44, 3), (2, 0, 18)), (171, (.getfield 98, 3), (1, 0, 17)), (174, (.iload 6, 2), (0, 0, 0)), (176, (.invokevirtual 102, 3), (15, 32, 0)), (179, (.iload 6, 2), (0, 0, 0)), (181, (.lload 7, 2), (0, 0, 0)), (183, (.invokevirtual 70, 3), (42, 4, 0)), (186, (.return_, 1), (0, 0, 0))]
/-- MixfixBench$Finder.chooseWord -/
def X_c44 : List (Nat × (Jvm.ClassFile.Instr × Nat) × (Nat × Nat × Nat)) := [(0, (.aload_n 0, 1), (0, 0, 0)), (1, (.getfield 15, 3), (2, 4, 26)), (4, (.iload_n 1, 1), (0, 0, 0)), (5, (.iaload, 1), (0, 0, 0)), (6, (.istore_n 2, 1), (0, 0, 0)), (7, (.aload_n 0, 1), (0, 0, 0)), (8, (.getfield 19, 3), (2, 5, 28)), (11, (.iload_n 1, 1), (0, 0, 0)), (12, (.iaload, 1), (0, 0, 0)), (13, (.istore_n 3, 1), (0, 0, 0)), (14, (.aload_n 0, 1), (0, 0, 0)), (15, (.getfield 44, 3), (2, 0, 18)), (18, (.iload_n 2, 1), (0, 0, 0)), (19, (.iload_n 3, 1), (0, 0, 0)), (20, (.aload_n 0, 1), (0, 0, 0)), (21, (.getfield 31, 3), (2, 9, 36)), (24, (.iload_n 1, 1), (0, 0, 0)), (25, (.iaload, 1), (0, 0, 0)), (26, (.invokevirtual 107, 3), (28, 10, 0)), (29, (.lstore 4, 2), (0, 0, 0)), (31, (.iconst (-1), 1), (0, 0, 0)), (32, (.istore 6, 2), (0, 0, 0)), (34, (.iconst 0, 1), (0, 0, 0)), (35, (.istore 7, 2), (0, 0, 0)), (37, (.iload 7, 2), (0, 0, 0)), (39, (.aload_n 0, 1), (0, 0, 0)), (40, (.getfield 44, 3), (2, 0, 18)), (43, (.getfield 98, 3), (1, 0, 17)), (46, (.getfield 111, 3), (0, 2, 11)), (49, (.if_icmp .ge 72, 3), (0, 0, 0)), (52, (.lload 4, 2), (0, 0, 0)), (54, (.ldc2_w 114, 3), (18446744073709551614, 946, 0)), (57, (.lcmp, 1), (0, 0, 0)), (58, (.ifCond .eq 63, 3), (0, 0, 0)), (61, (.aload_n 0, 1), (0, 0, 0)), (62, (.getfield 34, 3), (2, 10, 38)), (65, (.iload_n 1, 1), (0, 0, 0)), (66, (.laload, 1), (0, 0, 0)), (67, (.lload 4, 2), (0, 0, 0)), (69, (.lcmp, 1), (0, 0, 0)), (70, (.ifCond .lt 51, 3), (0, 0, 0)), (73, (.aload_n 0, 1), (0, 0, 0)), (74, (.getfield 28, 3), (2, 8, 34)), (77, (.iload_n 1, 1), (0, 0, 0)), (78, (.iaload, 1), (0, 0, 0)), (79, (.iload 7, 2), (0, 0, 0)), (81, (.invokestatic 116, 3), (131, 13, 0)), (84, (.ifCond .eq 31, 3), (0, 0, 0)), (87, (.aload_n 0, 1), (0, 0, 0)), (88, (.getfield 34, 3), (2, 10, 38)), (91, (.iload_n 1, 1), (0, 0, 0)), (92, (.dup2, 1), (0, 0, 0)), (93, (.laload, 1), (0, 0, 0)), (94, (.lload 4, 2), (0, 0, 0)), (96, (.lsub, 1), (0, 0, 0)), (97, (.lastore, 1), (0, 0, 0)), (98, (.aload_n 0, 1), (0, 0, 0)), (99, (.getfield 44, 3), (2, 0, 18)), (102, (.iload_n 2, 1), (0, 0, 0)), (103, (.iload_n 3, 1), (0, 0, 0)), (104, (.iload 7, 2), (0, 0, 0)), (106, (.invokevirtual 120, 3), (26, 14, 0)), (109, (.lstore 4, 2), (0, 0, 0)), (111, (.iload 7, 2), (0, 0, 0)), (113, (.istore 6, 2), (0, 0, 0)), (115, (.iinc 7 1, 3), (0, 0, 0)), (118, (.goto (-81), 3), (0, 0, 0)), (121, (.iload 6, 2), (0, 0, 0)), (123, (.ireturn, 1), (0, 0, 0))]
/-- MixfixBench$Finder.splitWord -/
def X_c45 : List (Nat × (Jvm.ClassFile.Instr × Nat) × (Nat × Nat × Nat)) := [(0, (.aload_n 0, 1), (0, 0, 0)), (1, (.getfield 44, 3), (2, 0, 18)), (4, (.getfield 98, 3), (1, 0, 17)), (7, (.getfield 123, 3), (0, 7, 13)), (10, (.iload_n 1, 1), (0, 0, 0)), (11, (.aaload, 1), (0, 0, 0)), (12, (.astore 6, 2), (0, 0, 0)), (14, (.lload 4, 2), (0, 0, 0)), (16, (.lstore 7, 2), (0, 0, 0)), (18, (.lconst 1, 1), (0, 0, 0)), (19, (.lstore 9, 2), (0, 0, 0)), (21, (.iload_n 2, 1), (0, 0, 0)), (22, (.istore 11, 2), (0, 0, 0)), (24, (.iconst 0, 1), (0, 0, 0)), (25, (.istore 12, 2), (0, 0, 0)), (27, (.iload 12, 2), (0, 0, 0)), (29, (.aload 6, 2), (0, 0, 0)), (31, (.getfield 126, 3), (8, 3, 1)), (34, (.if_icmp .ge 154, 3), (0, 0, 0)), (37, (.aload 6, 2), (0, 0, 0)), (39, (.iload 12, 2), (0, 0, 0)), (41, (.invokevirtual 131, 3), (100, 22, 0)), (44, (.ifCond .ne 9, 3), (0, 0, 0)), (47, (.iinc 11 1, 3), (0, 0, 0)), (50, (.goto 132, 3), (0, 0, 0)), (53, (.aload 6, 2), (0, 0, 0)), (55, (.getfield 135, 3), (8, 9, 5)), (58, (.iload 12, 2), (0, 0, 0)), (60, (.iaload, 1), (0, 0, 0)), (61, (.istore 13, 2), (0, 0, 0)), (63, (.iload 11, 2), (0, 0, 0)), (65, (.iconst 1, 1), (0, 0, 0)), (66, (.iadd, 1), (0, 0, 0)), (67, (.istore 14, 2), (0, 0, 0)), (69, (.iload 14, 2), (0, 0, 0)), (71, (.iload_n 3, 1), (0, 0, 0)), (72, (.if_icmp .gt 101, 3), (0, 0, 0)), (75, (.lload 9, 2), (0, 0, 0)), (77, (.aload_n 0, 1), (0, 0, 0)), (78, (.getfield 44, 3), (2, 0, 18)), (81, (.iload 11, 2), (0, 0, 0)), (83, (.iload 14, 2), (0, 0, 0)), (85, (.iload_n 1, 1), (0, 0, 0)), (86, (.iload 13, 2), (0, 0, 0)), (88, (.invokevirtual 138, 3), (27, 24, 0)), (91, (.invokestatic 142, 3), (135, 27, 0)), (94, (.lstore 15, 2), (0, 0, 0)), (96, (.lload 15, 2), (0, 0, 0)), (98, (.aload_n 0, 1), (0, 0, 0)), (99, (.getfield 44, 3), (2, 0, 18)), (102, (.iload_n 1, 1), (0, 0, 0)), (103, (.iload 12, 2), (0, 0, 0)), (105, (.iconst 1, 1), (0, 0, 0)), (106, (.iadd, 1), (0, 0, 0)), (107, (.iload 14, 2), (0, 0, 0)), (109, (.iload_n 3, 1), (0, 0, 0)), (110, (.invokevirtual 146, 3), (38, 28, 0)), (113, (.invokestatic 142, 3), (135, 27, 0)), (116, (.lstore 17, 2), (0, 0, 0)), (118, (.lload 17, 2), (0, 0, 0)), (120, (.ldc2_w 114, 3), (18446744073709551614, 946, 0)), (123, (.lcmp, 1), (0, 0, 0)), (124, (.ifCond .eq 11, 3), (0, 0, 0)), (127, (.lload 7, 2), (0, 0, 0)), (129, (.lload 17, 2), (0, 0, 0)), (131, (.lcmp, 1), (0, 0, 0)), (132, (.ifCond .ge 28, 3), (0, 0, 0)), (135, (.aload_n 0, 1), (0, 0, 0)), (136, (.getfield 38, 3), (2, 11, 40)), (139, (.iload 13, 2), (0, 0, 0)), (141, (.iload 11, 2), (0, 0, 0)), (143, (.iastore, 1), (0, 0, 0)), (144, (.aload_n 0, 1), (0, 0, 0)), (145, (.getfield 41, 3), (2, 12, 42)), (148, (.iload 13, 2), (0, 0, 0)), (150, (.iload 14, 2), (0, 0, 0)), (152, (.iastore, 1), (0, 0, 0)), (153, (.lload 15, 2), (0, 0, 0)), (155, (.lstore 9, 2), (0, 0, 0)), (157, (.goto 16, 3), (0, 0, 0)), (160, (.lload 7, 2), (0, 0, 0)), (162, (.lload 17, 2), (0, 0, 0)), (164, (.lsub, 1), (0, 0, 0)), (165, (.lstore 7, 2), (0, 0, 0)), (167, (.iinc 14 1, 3), (0, 0, 0)), (170, (.goto (-101), 3), (0, 0, 0)), (173, (.aload_n 0, 1), (0, 0, 0)), (174, (.getfield 41, 3), (2, 12, 42)), (177, (.iload 13, 2), (0, 0, 0)), (179, (.iaload, 1), (0, 0, 0)), (180, (.istore 11, 2), (0, 0, 0)), (182, (.iinc 12 1, 3), (0, 0, 0)), (185, (.goto (-158), 3), (0, 0, 0)), (188, (.lload 7, 2), (0, 0, 0)), (190, (.lreturn, 1), (0, 0, 0))]
/-- MixfixBench$Finder.fillWord -/
def X_c46 : List (Nat × (Jvm.ClassFile.Instr × Nat) × (Nat × Nat × Nat)) := [(0, (.aload_n 0, 1), (0, 0, 0)), (1, (.getfield 44, 3), (2, 0, 18)), (4, (.getfield 98, 3), (1, 0, 17)), (7, (.getfield 123, 3), (0, 7, 13)), (10, (.iload_n 1, 1), (0, 0, 0)), (11, (.aaload, 1), (0, 0, 0)), (12, (.astore 5, 2), (0, 0, 0)), (14, (.lload_n 3, 1), (0, 0, 0)), (15, (.lstore 6, 2), (0, 0, 0)), (17, (.aload 5, 2), (0, 0, 0)), (19, (.getfield 149, 3), (8, 4, 3)), (22, (.iconst 1, 1), (0, 0, 0)), (23, (.isub, 1), (0, 0, 0)), (24, (.istore 8, 2), (0, 0, 0)), (26, (.iload 8, 2), (0, 0, 0)), (28, (.ifCond .lt 119, 3), (0, 0, 0)), (31, (.aload_n 0, 1), (0, 0, 0)), (32, (.getfield 38, 3), (2, 11, 40)), (35, (.iload 8, 2), (0, 0, 0)), (37, (.iaload, 1), (0, 0, 0)), (38, (.istore 9, 2), (0, 0, 0)), (40, (.aload_n 0, 1), (0, 0, 0)), (41, (.getfield 41, 3), (2, 12, 42)), (44, (.iload 8, 2), (0, 0, 0)), (46, (.iaload, 1), (0, 0, 0)), (47, (.istore 10, 2), (0, 0, 0)), (49, (.aload_n 0, 1), (0, 0, 0)), (50, (.getfield 44, 3), (2, 0, 18)), (53, (.iload 9, 2), (0, 0, 0)), (55, (.iload 10, 2), (0, 0, 0)), (57, (.iload_n 1, 1), (0, 0, 0)), (58, (.iload 8, 2), (0, 0, 0)), (60, (.invokevirtual 138, 3), (27, 24, 0)), (63, (.lstore 11, 2), (0, 0, 0)), (65, (.lload 11, 2), (0, 0, 0)), (67, (.lconst 0, 1), (0, 0, 0)), (68, (.lcmp, 1), (0, 0, 0)), (69, (.ifCond .le 7, 3), (0, 0, 0)), (72, (.iconst 1, 1), (0, 0, 0)), (73, (.goto 4, 3), (0, 0, 0)), (76, (.iconst 0, 1), (0, 0, 0)), (77, (.istore 13, 2), (0, 0, 0)), (79, (.aload_n 0, 1), (0, 0, 0)), (80, (.iload 9, 2), (0, 0, 0)), (82, (.iload 10, 2), (0, 0, 0)), (84, (.iload_n 2, 1), (0, 0, 0)), (85, (.iload 8, 2), (0, 0, 0)), (87, (.invokevirtual 66, 3), (41, 2, 0)), (90, (.aload_n 0, 1), (0, 0, 0)), (91, (.aload 5, 2), (0, 0, 0)), (93, (.getfield 151, 3), (8, 11, 7)), (96, (.iload 8, 2), (0, 0, 0)), (98, (.iaload, 1), (0, 0, 0)), (99, (.aload 5, 2), (0, 0, 0)), (101, (.getfield 154, 3), (8, 12, 9)), (104, (.iload 8, 2), (0, 0, 0)), (106, (.iaload, 1), (0, 0, 0)), (107, (.iload 13, 2), (0, 0, 0)), (109, (.ifCond .eq 11, 3), (0, 0, 0)), (112, (.lload 6, 2), (0, 0, 0)), (114, (.lload 11, 2), (0, 0, 0)), (116, (.lrem, 1), (0, 0, 0)), (117, (.goto 5, 3), (0, 0, 0)), (120, (.lload 6, 2), (0, 0, 0)), (122, (.invokevirtual 70, 3), (42, 4, 0)), (125, (.iload 13, 2), (0, 0, 0)), (127, (.ifCond .eq 11, 3), (0, 0, 0)), (130, (.lload 6, 2), (0, 0, 0)), (132, (.lload 11, 2), (0, 0, 0)), (134, (.ldiv, 1), (0, 0, 0)), (135, (.goto 4, 3), (0, 0, 0)), (138, (.lconst 0, 1), (0, 0, 0)), (139, (.lstore 6, 2), (0, 0, 0)), (141, (.iinc 8 (-1), 3), (0, 0, 0)), (144, (.goto (-118), 3), (0, 0, 0)), (147, (.return_, 1), (0, 0, 0))]
/-- MixfixBench$Lexer.<init> -/
def X_c47 : List (Nat × (Jvm.ClassFile.Instr × Nat) × (Nat × Nat × Nat)) := [(0, (.aload_n 0, 1), (0, 0, 0)), (1, (.invokespecial 3, 3), (9999, 275, 0)), (4, (.aload_n 0, 1), (0, 0, 0)), (5, (.sipush 2001, 3), (0, 0, 0)), (8, (.newarray .int, 2), (0, 0, 0)), (10, (.putfield 9, 3), (3, 3, 8)), (13, (.aload_n 0, 1), (0, 0, 0)), (14, (.sipush 2001, 3), (0, 0, 0)), (17, (.newarray .int, 2), (0, 0, 0)), (19, (.putfield 15, 3), (3, 4, 10)), (22, (.aload_n 0, 1), (0, 0, 0)), (23, (.sipush 2001, 3), (0, 0, 0)), (26, (.newarray .long, 2), (0, 0, 0)), (28, (.putfield 18, 3), (3, 5, 12)), (31, (.aload_n 0, 1), (0, 0, 0)), (32, (.aload_n 1, 1), (0, 0, 0)), (33, (.putfield 22, 3), (3, 0, 2)), (36, (.return_, 1), (0, 0, 0))]
/-- MixfixBench$Lexer.sort -/
def X_c48 : List (Nat × (Jvm.ClassFile.Instr × Nat) × (Nat × Nat × Nat)) := [(0, (.aload_n 0, 1), (0, 0, 0)), (1, (.getfield 9, 3), (3, 3, 8)), (4, (.aload_n 0, 1), (0, 0, 0)), (5, (.getfield 26, 3), (3, 6, 14)), (8, (.iaload, 1), (0, 0, 0)), (9, (.ireturn, 1), (0, 0, 0))]
/-- MixfixBench$Lexer.place -/
def X_c49 : List (Nat × (Jvm.ClassFile.Instr × Nat) × (Nat × Nat × Nat)) := [(0, (.aload_n 0, 1), (0, 0, 0)), (1, (.getfield 15, 3), (3, 4, 10)), (4, (.aload_n 0, 1), (0, 0, 0)), (5, (.getfield 26, 3), (3, 6, 14)), (8, (.iaload, 1), (0, 0, 0)), (9, (.ireturn, 1), (0, 0, 0))]
/-- MixfixBench$Lexer.content -/
def X_c50 : List (Nat × (Jvm.ClassFile.Instr × Nat) × (Nat × Nat × Nat)) := [(0, (.aload_n 0, 1), (0, 0, 0)), (1, (.getfield 18, 3), (3, 5, 12)), (4, (.aload_n 0, 1), (0, 0, 0)), (5, (.getfield 26, 3), (3, 6, 14)), (8, (.laload, 1), (0, 0, 0)), (9, (.lreturn, 1), (0, 0, 0))]
/-- MixfixBench$Lexer.isKeyword -/
def X_c51 : List (Nat × (Jvm.ClassFile.Instr × Nat) × (Nat × Nat × Nat)) := [(0, (.aload_n 0, 1), (0, 0, 0)), (1, (.invokevirtual 30, 3), (48, 26, 0)), (4, (.iconst 3, 1), (0, 0, 0)), (5, (.if_icmp .ne 16, 3), (0, 0, 0)), (8, (.aload_n 0, 1), (0, 0, 0)), (9, (.invokevirtual 34, 3), (50, 28, 0)), (12, (.lload_n 1, 1), (0, 0, 0)), (13, (.lcmp, 1), (0, 0, 0)), (14, (.ifCond .ne 7, 3), (0, 0, 0)), (17, (.iconst 1, 1), (0, 0, 0)), (18, (.goto 4, 3), (0, 0, 0)), (21, (.iconst 0, 1), (0, 0, 0)), (22, (.ireturn, 1), (0, 0, 0))]
/-- MixfixBench$Lexer.advance -/
def X_c52 : List (Nat × (Jvm.ClassFile.Instr × Nat) × (Nat × Nat × Nat)) := [(0, (.aload_n 0, 1), (0, 0, 0)), (1, (.getfield 26, 3), (3, 6, 14)), (4, (.iconst 1, 1), (0, 0, 0)), (5, (.iadd, 1), (0, 0, 0)), (6, (.aload_n 0, 1), (0, 0, 0)), (7, (.getfield 38, 3), (3, 2, 6)), (10, (.if_icmp .ge 13, 3), (0, 0, 0)), (13, (.aload_n 0, 1), (0, 0, 0)), (14, (.dup, 1), (0, 0, 0)), (15, (.getfield 26, 3), (3, 6, 14)), (18, (.iconst 1, 1), (0, 0, 0)), (19, (.iadd, 1), (0, 0, 0)), (20, (.putfield 26, 3), (3, 6, 14)), (23, (.return_, 1), (0, 0, 0))]
/-- MixfixBench$Lexer.start -/
def X_c53 : List (Nat × (Jvm.ClassFile.Instr × Nat) × (Nat × Nat × Nat)) := [(0, (.aload_n 0, 1), (0, 0, 0)), (1, (.iconst 0, 1), (0, 0, 0)), (2, (.putfield 41, 3), (3, 1, 4)), (5, (.aload_n 0, 1), (0, 0, 0)), (6, (.iconst 0, 1), (0, 0, 0)), (7, (.putfield 38, 3), (3, 2, 6)), (10, (.aload_n 0, 1), (0, 0, 0)), (11, (.iconst 0, 1), (0, 0, 0)), (12, (.putfield 26, 3), (3, 6, 14)), (15, (.iconst 1, 1), (0, 0, 0)), (16, (.istore_n 1, 1), (0, 0, 0)), (17, (.iload_n 1, 1), (0, 0, 0)), (18, (.ifCond .eq 148, 3), (0, 0, 0)), (21, (.aload_n 0, 1), (0, 0, 0)), (22, (.getfield 38, 3), (3, 2, 6)), (25, (.sipush 2000, 3), (0, 0, 0)), (28, (.if_icmp .gt 138, 3), (0, 0, 0)), (31, (.aload_n 0, 1), (0, 0, 0)), (32, (.getfield 41, 3), (3, 1, 4)), (35, (.aload_n 0, 1), (0, 0, 0)), (36, (.getfield 22, 3), (3, 0, 2)), (39, (.getfield 44, 3), (7, 1, 1)), (42, (.if_icmp .ge 33, 3), (0, 0, 0)), (45, (.aload_n 0, 1), (0, 0, 0)), (46, (.getfield 22, 3), (3, 0, 2)), (49, (.aload_n 0, 1), (0, 0, 0)), (50, (.getfield 41, 3), (3, 1, 4)), (53, (.invokevirtual 49, 3), (93, 0, 0)), (56, (.invokestatic 53, 3), (133, 3, 0)), (59, (.ifCond .eq 16, 3), (0, 0, 0)), (62, (.aload_n 0, 1), (0, 0, 0)), (63, (.dup, 1), (0, 0, 0)), (64, (.getfield 41, 3), (3, 1, 4)), (67, (.iconst 1, 1), (0, 0, 0)), (68, (.iadd, 1), (0, 0, 0)), (69, (.putfield 41, 3), (3, 1, 4)), (72, (.goto (-41), 3), (0, 0, 0)), (75, (.aload_n 0, 1), (0, 0, 0)), (76, (.getfield 15, 3), (3, 4, 10)), (79, (.aload_n 0, 1), (0, 0, 0)), (80, (.getfield 38, 3), (3, 2, 6)), (83, (.aload_n 0, 1), (0, 0, 0)), (84, (.getfield 41, 3), (3, 1, 4)), (87, (.iastore, 1), (0, 0, 0)), (88, (.aload_n 0, 1), (0, 0, 0)), (89, (.getfield 18, 3), (3, 5, 12)), (92, (.aload_n 0, 1), (0, 0, 0)), (93, (.getfield 38, 3), (3, 2, 6)), (96, (.lconst 0, 1), (0, 0, 0)), (97, (.lastore, 1), (0, 0, 0)), (98, (.aload_n 0, 1), (0, 0, 0)), (99, (.getfield 9, 3), (3, 3, 8)), (102, (.aload_n 0, 1), (0, 0, 0)), (103, (.getfield 38, 3), (3, 2, 6)), (106, (.aload_n 0, 1), (0, 0, 0)), (107, (.aload_n 0, 1), (0, 0, 0)), (108, (.getfield 22, 3), (3, 0, 2)), (111, (.aload_n 0, 1), (0, 0, 0)), (112, (.getfield 41, 3), (3, 1, 4)), (115, (.invokevirtual 49, 3), (93, 0, 0)), (118, (.invokevirtual 57, 3), (54, 4, 0)), (121, (.iastore, 1), (0, 0, 0)), (122, (.aload_n 0, 1), (0, 0, 0)), (123, (.getfield 9, 3), (3, 3, 8)), (126, (.aload_n 0, 1), (0, 0, 0)), (127, (.getfield 38, 3), (3, 2, 6)), (130, (.iaload, 1), (0, 0, 0)), (131, (.ifCond .eq 20, 3), (0, 0, 0)), (134, (.aload_n 0, 1), (0, 0, 0)), (135, (.getfield 9, 3), (3, 3, 8)), (138, (.aload_n 0, 1), (0, 0, 0)), (139, (.getfield 38, 3), (3, 2, 6)), (142, (.iaload, 1), (0, 0, 0)), (143, (.iconst 1, 1), (0, 0, 0)), (144, (.if_icmp .eq 7, 3), (0, 0, 0)), (147, (.iconst 1, 1), (0, 0, 0)), (148, (.goto 4, 3), (0, 0, 0)), (151, (.iconst 0, 1), (0, 0, 0)), (152, (.istore_n 1, 1), (0, 0, 0)), (153, (.aload_n 0, 1), (0, 0, 0)), (154, (.dup, 1), (0, 0, 0)), (155, (.getfield 38, 3), (3, 2, 6)), (158, (.iconst 1, 1), (0, 0, 0)), (159, (.iadd, 1), (0, 0, 0)), (160, (.putfield 38, 3), (3, 2, 6)), (163, (.goto (-146), 3), (0, 0, 0)), (166, (.return_, 1), (0, 0, 0))]
/-- MixfixBench$Lexer.takeToken -/
def X_c54 : List (Nat × (Jvm.ClassFile.Instr × Nat) × (Nat × Nat × Nat)) := [(0, (.iload_n 1, 1), (0, 0, 0)), (1, (.iconst (-1), 1), (0, 0, 0)), (2, (.if_icmp .ne 5, 3), (0, 0, 0)), (5, (.iconst 0, 1), (0, 0, 0)), (6, (.ireturn, 1), (0, 0, 0)), (7, (.iload_n 1, 1), (0, 0, 0)), (8, (.invokestatic 60, 3), (60, 6, 0)), (11, (.ifCond .eq 8, 3), (0, 0, 0)), (14, (.aload_n 0, 1), (0, 0, 0)), (15, (.invokevirtual 63, 3), (55, 8, 0)), (18, (.ireturn, 1), (0, 0, 0)), (19, (.iload_n 1, 1), (0, 0, 0)), (20, (.invokestatic 66, 3), (132, 13, 0)), (23, (.ifCond .eq 8, 3), (0, 0, 0)), (26, (.aload_n 0, 1), (0, 0, 0)), (27, (.invokevirtual 69, 3), (56, 16, 0)), (30, (.ireturn, 1), (0, 0, 0)), (31, (.iload_n 1, 1), (0, 0, 0)), (32, (.bipush 34, 2), (0, 0, 0)), (34, (.if_icmp .ne 10, 3), (0, 0, 0)), (37, (.aload_n 0, 1), (0, 0, 0)), (38, (.invokevirtual 72, 3), (57, 18, 0)), (41, (.goto 8, 3), (0, 0, 0)), (44, (.aload_n 0, 1), (0, 0, 0)), (45, (.iload_n 1, 1), (0, 0, 0)), (46, (.invokevirtual 75, 3), (58, 22, 0)), (49, (.ireturn, 1), (0, 0, 0))]
/-- MixfixBench$Lexer.takeName -/
def X_c55 : List (Nat × (Jvm.ClassFile.Instr × Nat) × (Nat × Nat × Nat)) := [(0, (.lconst 0, 1), (0, 0, 0)), (1, (.lstore_n 1, 1), (0, 0, 0)), (2, (.aload_n 0, 1), (0, 0, 0)), (3, (.getfield 41, 3), (3, 1, 4)), (6, (.aload_n 0, 1), (0, 0, 0)), (7, (.getfield 22, 3), (3, 0, 2)), (10, (.getfield 44, 3), (7, 1, 1)), (13, (.if_icmp .ge 51, 3), (0, 0, 0)), (16, (.aload_n 0, 1), (0, 0, 0)), (17, (.getfield 22, 3), (3, 0, 2)), (20, (.aload_n 0, 1), (0, 0, 0)), (21, (.getfield 41, 3), (3, 1, 4)), (24, (.invokevirtual 49, 3), (93, 0, 0)), (27, (.invokestatic 78, 3), (61, 10, 0)), (30, (.ifCond .eq 34, 3), (0, 0, 0)), (33, (.lload_n 1, 1), (0, 0, 0)), (34, (.bipush 8, 2), (0, 0, 0)), (36, (.lshl, 1), (0, 0, 0)), (37, (.aload_n 0, 1), (0, 0, 0)), (38, (.getfield 22, 3), (3, 0, 2)), (41, (.aload_n 0, 1), (0, 0, 0)), (42, (.getfield 41, 3), (3, 1, 4)), (45, (.invokevirtual 49, 3), (93, 0, 0)), (48, (.i2l, 1), (0, 0, 0)), (49, (.lor, 1), (0, 0, 0)), (50, (.lstore_n 1, 1), (0, 0, 0)), (51, (.aload_n 0, 1), (0, 0, 0)), (52, (.dup, 1), (0, 0, 0)), (53, (.getfield 41, 3), (3, 1, 4)), (56, (.iconst 1, 1), (0, 0, 0)), (57, (.iadd, 1), (0, 0, 0)), (58, (.putfield 41, 3), (3, 1, 4)), (61, (.goto (-59), 3), (0, 0, 0)), (64, (.aload_n 0, 1), (0, 0, 0)), (65, (.getfield 41, 3), (3, 1, 4)), (68, (.aload_n 0, 1), (0, 0, 0)), (69, (.getfield 15, 3), (3, 4, 10)), (72, (.aload_n 0, 1), (0, 0, 0)), (73, (.getfield 38, 3), (3, 2, 6)), (76, (.iaload, 1), (0, 0, 0)), (77, (.isub, 1), (0, 0, 0)), (78, (.bipush 8, 2), (0, 0, 0)), (80, (.if_icmp .le 5, 3), (0, 0, 0)), (83, (.iconst 1, 1), (0, 0, 0)), (84, (.ireturn, 1), (0, 0, 0)), (85, (.aload_n 0, 1), (0, 0, 0)), (86, (.getfield 18, 3), (3, 5, 12)), (89, (.aload_n 0, 1), (0, 0, 0)), (90, (.getfield 38, 3), (3, 2, 6)), (93, (.lload_n 1, 1), (0, 0, 0)), (94, (.lastore, 1), (0, 0, 0)), (95, (.lload_n 1, 1), (0, 0, 0)), (96, (.invokestatic 81, 3), (59, 14, 0)), (99, (.ifCond .eq 7, 3), (0, 0, 0)), (102, (.iconst 3, 1), (0, 0, 0)), (103, (.goto 4, 3), (0, 0, 0)), (106, (.iconst 2, 1), (0, 0, 0)), (107, (.ireturn, 1), (0, 0, 0))]
/-- MixfixBench$Lexer.takeNumber -/
def X_c56 : List (Nat × (Jvm.ClassFile.Instr × Nat) × (Nat × Nat × Nat)) := [(0, (.lconst 0, 1), (0, 0, 0)), (1, (.lstore_n 1, 1), (0, 0, 0)), (2, (.aload_n 0, 1), (0, 0, 0)), (3, (.getfield 41, 3), (3, 1, 4)), (6, (.aload_n 0, 1), (0, 0, 0)), (7, (.getfield 22, 3), (3, 0, 2)), (10, (.getfield 44, 3), (7, 1, 1)), (13, (.if_icmp .ge 56, 3), (0, 0, 0)), (16, (.aload_n 0, 1), (0, 0, 0)), (17, (.getfield 22, 3), (3, 0, 2)), (20, (.aload_n 0, 1), (0, 0, 0)), (21, (.getfield 41, 3), (3, 1, 4)), (24, (.invokevirtual 49, 3), (93, 0, 0)), (27, (.invokestatic 66, 3), (132, 13, 0)), (30, (.ifCond .eq 39, 3), (0, 0, 0)), (33, (.lload_n 1, 1), (0, 0, 0)), (34, (.ldc2_w 85, 3), (10, 571, 0)), (37, (.lmul, 1), (0, 0, 0)), (38, (.aload_n 0, 1), (0, 0, 0)), (39, (.getfield 22, 3), (3, 0, 2)), (42, (.aload_n 0, 1), (0, 0, 0)), (43, (.getfield 41, 3), (3, 1, 4)), (46, (.invokevirtual 49, 3), (93, 0, 0)), (49, (.i2l, 1), (0, 0, 0)), (50, (.ladd, 1), (0, 0, 0)), (51, (.ldc2_w 87, 3), (48, 572, 0)), (54, (.lsub, 1), (0, 0, 0)), (55, (.lstore_n 1, 1), (0, 0, 0)), (56, (.aload_n 0, 1), (0, 0, 0)), (57, (.dup, 1), (0, 0, 0)), (58, (.getfield 41, 3), (3, 1, 4)), (61, (.iconst 1, 1), (0, 0, 0)), (62, (.iadd, 1), (0, 0, 0)), (63, (.putfield 41, 3), (3, 1, 4)), (66, (.goto (-64), 3), (0, 0, 0)), (69, (.aload_n 0, 1), (0, 0, 0)), (70, (.getfield 41, 3), (3, 1, 4)), (73, (.aload_n 0, 1), (0, 0, 0)), (74, (.getfield 15, 3), (3, 4, 10)), (77, (.aload_n 0, 1), (0, 0, 0)), (78, (.getfield 38, 3), (3, 2, 6)), (81, (.iaload, 1), (0, 0, 0)), (82, (.isub, 1), (0, 0, 0)), (83, (.istore_n 3, 1), (0, 0, 0)), (84, (.iload_n 3, 1), (0, 0, 0)), (85, (.bipush 9, 2), (0, 0, 0)), (87, (.if_icmp .gt 20, 3), (0, 0, 0)), (90, (.aload_n 0, 1), (0, 0, 0)), (91, (.getfield 22, 3), (3, 0, 2)), (94, (.aload_n 0, 1), (0, 0, 0)), (95, (.getfield 41, 3), (3, 1, 4)), (98, (.invokevirtual 49, 3), (93, 0, 0)), (101, (.invokestatic 60, 3), (60, 6, 0)), (104, (.ifCond .eq 5, 3), (0, 0, 0)), (107, (.iconst 1, 1), (0, 0, 0)), (108, (.ireturn, 1), (0, 0, 0)), (109, (.aload_n 0, 1), (0, 0, 0)), (110, (.getfield 18, 3), (3, 5, 12)), (113, (.aload_n 0, 1), (0, 0, 0)), (114, (.getfield 38, 3), (3, 2, 6)), (117, (.lload_n 1, 1), (0, 0, 0)), (118, (.lastore, 1), (0, 0, 0)), (119, (.iload_n 3, 1), (0, 0, 0)), (120, (.iconst 1, 1), (0, 0, 0)), (121, (.if_icmp .ne 7, 3), (0, 0, 0)), (124, (.iconst 5, 1), (0, 0, 0)), (125, (.goto 4, 3), (0, 0, 0)), (128, (.iconst 4, 1), (0, 0, 0)), (129, (.ireturn, 1), (0, 0, 0))]
/-- MixfixBench$Lexer.takePart -/
def X_c57 : List (Nat × (Jvm.ClassFile.Instr × Nat) × (Nat × Nat × Nat)) := [(0, (.iconst 1, 1), (0, 0, 0)), (1, (.istore_n 1, 1), (0, 0, 0)), (2, (.lconst 0, 1), (0, 0, 0)), (3, (.lstore_n 2, 1), (0, 0, 0)), (4, (.aload_n 0, 1), (0, 0, 0)), (5, (.dup, 1), (0, 0, 0)), (6, (.getfield 41, 3), (3, 1, 4)), (9, (.iconst 1, 1), (0, 0, 0)), (10, (.iadd, 1), (0, 0, 0)), (11, (.putfield 41, 3), (3, 1, 4)), (14, (.aload_n 0, 1), (0, 0, 0)), (15, (.getfield 41, 3), (3, 1, 4)), (18, (.aload_n 0, 1), (0, 0, 0)), (19, (.getfield 22, 3), (3, 0, 2)), (22, (.getfield 44, 3), (7, 1, 1)), (25, (.if_icmp .ge 78, 3), (0, 0, 0)), (28, (.aload_n 0, 1), (0, 0, 0)), (29, (.getfield 22, 3), (3, 0, 2)), (32, (.aload_n 0, 1), (0, 0, 0)), (33, (.getfield 41, 3), (3, 1, 4)), (36, (.invokevirtual 49, 3), (93, 0, 0)), (39, (.invokestatic 89, 3), (62, 20, 0)), (42, (.ifCond .eq 61, 3), (0, 0, 0)), (45, (.iload_n 1, 1), (0, 0, 0)), (46, (.ifCond .eq 24, 3), (0, 0, 0)), (49, (.aload_n 0, 1), (0, 0, 0)), (50, (.getfield 22, 3), (3, 0, 2)), (53, (.aload_n 0, 1), (0, 0, 0)), (54, (.getfield 41, 3), (3, 1, 4)), (57, (.invokevirtual 49, 3), (93, 0, 0)), (60, (.invokestatic 66, 3), (132, 13, 0)), (63, (.ifCond .eq 7, 3), (0, 0, 0)), (66, (.iconst 1, 1), (0, 0, 0)), (67, (.goto 4, 3), (0, 0, 0)), (70, (.iconst 0, 1), (0, 0, 0)), (71, (.istore_n 1, 1), (0, 0, 0)), (72, (.lload_n 2, 1), (0, 0, 0)), (73, (.bipush 8, 2), (0, 0, 0)), (75, (.lshl, 1), (0, 0, 0)), (76, (.aload_n 0, 1), (0, 0, 0)), (77, (.getfield 22, 3), (3, 0, 2)), (80, (.aload_n 0, 1), (0, 0, 0)), (81, (.getfield 41, 3), (3, 1, 4)), (84, (.invokevirtual 49, 3), (93, 0, 0)), (87, (.i2l, 1), (0, 0, 0)), (88, (.lor, 1), (0, 0, 0)), (89, (.lstore_n 2, 1), (0, 0, 0)), (90, (.aload_n 0, 1), (0, 0, 0)), (91, (.dup, 1), (0, 0, 0)), (92, (.getfield 41, 3), (3, 1, 4)), (95, (.iconst 1, 1), (0, 0, 0)), (96, (.iadd, 1), (0, 0, 0)), (97, (.putfield 41, 3), (3, 1, 4)), (100, (.goto (-86), 3), (0, 0, 0)), (103, (.aload_n 0, 1), (0, 0, 0)), (104, (.getfield 41, 3), (3, 1, 4)), (107, (.aload_n 0, 1), (0, 0, 0)), (108, (.getfield 15, 3), (3, 4, 10)), (111, (.aload_n 0, 1), (0, 0, 0)), (112, (.getfield 38, 3), (3, 2, 6)), (115, (.iaload, 1), (0, 0, 0)), (116, (.isub, 1), (0, 0, 0)), (117, (.iconst 1, 1), (0, 0, 0)), (118, (.isub, 1), (0, 0, 0)), (119, (.istore 4, 2), (0, 0, 0)), (121, (.aload_n 0, 1), (0, 0, 0)), (122, (.getfield 22, 3), (3, 0, 2)), (125, (.aload_n 0, 1), (0, 0, 0)), (126, (.getfield 41, 3), (3, 1, 4)), (129, (.invokevirtual 49, 3), (93, 0, 0)), (132, (.bipush 34, 2), (0, 0, 0)), (134, (.if_icmp .ne 14, 3), (0, 0, 0)), (137, (.iload 4, 2), (0, 0, 0)), (139, (.bipush 8, 2), (0, 0, 0)), (141, (.if_icmp .gt 7, 3), (0, 0, 0)), (144, (.iload_n 1, 1), (0, 0, 0)), (145, (.ifCond .eq 5, 3), (0, 0, 0)), (148, (.iconst 1, 1), (0, 0, 0)), (149, (.ireturn, 1), (0, 0, 0)), (150, (.aload_n 0, 1), (0, 0, 0)), (151, (.dup, 1), (0, 0, 0)), (152, (.getfield 41, 3), (3, 1, 4)), (155, (.iconst 1, 1), (0, 0, 0)), (156, (.iadd, 1), (0, 0, 0)), (157, (.putfield 41, 3), (3, 1, 4)), (160, (.aload_n 0, 1), (0, 0, 0)), (161, (.getfield 18, 3), (3, 5, 12)), (164, (.aload_n 0, 1), (0, 0, 0)), (165, (.getfield 38, 3), (3, 2, 6)), (168, (.lload_n 2, 1), (0, 0, 0)), (169, (.lastore, 1), (0, 0, 0)), (170, (.bipush 6, 2), (0, 0, 0)), (172, (.ireturn, 1), (0, 0, 0))]
/-- MixfixBench$Lexer.takeSign -/
def X_c58 : List (Nat × (Jvm.ClassFile.Instr × Nat) × (Nat × Nat × Nat)) := [(0, (.aload_n 0, 1), (0, 0, 0)), (1, (.dup, 1), (0, 0, 0)), (2, (.getfield 41, 3), (3, 1, 4)), (5, (.iconst 1, 1), (0, 0, 0)), (6, (.iadd, 1), (0, 0, 0)), (7, (.putfield 41, 3), (3, 1, 4)), (10, (.iload_n 1, 1), (0, 0, 0)), (11, (.bipush 95, 2), (0, 0, 0)), (13, (.if_icmp .ne 24, 3), (0, 0, 0)), (16, (.aload_n 0, 1), (0, 0, 0)), (17, (.getfield 22, 3), (3, 0, 2)), (20, (.aload_n 0, 1), (0, 0, 0)), (21, (.getfield 41, 3), (3, 1, 4)), (24, (.invokevirtual 49, 3), (93, 0, 0)), (27, (.invokestatic 78, 3), (61, 10, 0)), (30, (.ifCond .eq 7, 3), (0, 0, 0)), (33, (.iconst 1, 1), (0, 0, 0)), (34, (.goto 4, 3), (0, 0, 0)), (37, (.iconst 0, 1), (0, 0, 0)), (38, (.istore_n 2, 1), (0, 0, 0)), (39, (.iload_n 1, 1), (0, 0, 0)), (40, (.invokestatic 92, 3), (63, 24, 0)), (43, (.ifCond .eq 11, 3), (0, 0, 0)), (46, (.iload_n 2, 1), (0, 0, 0)), (47, (.ifCond .ne 7, 3), (0, 0, 0)), (50, (.iload_n 1, 1), (0, 0, 0)), (51, (.goto 4, 3), (0, 0, 0)), (54, (.iconst 1, 1), (0, 0, 0)), (55, (.ireturn, 1), (0, 0, 0))]
/-- MixfixBench$Lexer.isReserved -/
def X_c59 : List (Nat × (Jvm.ClassFile.Instr × Nat) × (Nat × Nat × Nat)) := [(0, (.lload_n 0, 1), (0, 0, 0)), (1, (.ldc2_w 95, 3), (1918987883, 560, 0)), (4, (.lcmp, 1), (0, 0, 0)), (5, (.ifCond .eq 51, 3), (0, 0, 0)), (8, (.lload_n 0, 1), (0, 0, 0)), (9, (.ldc2_w 97, 3), (32766990153442674, 561, 0)), (12, (.lcmp, 1), (0, 0, 0)), (13, (.ifCond .eq 43, 3), (0, 0, 0)), (16, (.lload_n 0, 1), (0, 0, 0)), (17, (.ldc2_w 99, 3), (1802071652, 562, 0)), (20, (.lcmp, 1), (0, 0, 0)), (21, (.ifCond .eq 35, 3), (0, 0, 0)), (24, (.lload_n 0, 1), (0, 0, 0)), (25, (.ldc2_w 101, 3), (504363246962, 563, 0)), (28, (.lcmp, 1), (0, 0, 0)), (29, (.ifCond .eq 27, 3), (0, 0, 0)), (32, (.lload_n 0, 1), (0, 0, 0)), (33, (.ldc2_w 103, 3), (2003792484, 564, 0)), (36, (.lcmp, 1), (0, 0, 0)), (37, (.ifCond .eq 19, 3), (0, 0, 0)), (40, (.lload_n 0, 1), (0, 0, 0)), (41, (.ldc2_w 105, 3), (1818584692, 565, 0)), (44, (.lcmp, 1), (0, 0, 0)), (45, (.ifCond .eq 11, 3), (0, 0, 0)), (48, (.lload_n 0, 1), (0, 0, 0)), (49, (.ldc2_w 107, 3), (491394656372, 566, 0)), (52, (.lcmp, 1), (0, 0, 0)), (53, (.ifCond .ne 7, 3), (0, 0, 0)), (56, (.iconst 1, 1), (0, 0, 0)), (57, (.goto 4, 3), (0, 0, 0)), (60, (.iconst 0, 1), (0, 0, 0)), (61, (.ireturn, 1), (0, 0, 0))]
/-- MixfixBench$Lexer.isLetter -/
def X_c60 : List (Nat × (Jvm.ClassFile.Instr × Nat) × (Nat × Nat × Nat)) := [(0, (.iload_n 0, 1), (0, 0, 0)), (1, (.bipush 97, 2), (0, 0, 0)), (3, (.if_icmp .lt 13, 3), (0, 0, 0)), (6, (.iload_n 0, 1), (0, 0, 0)), (7, (.bipush 122, 2), (0, 0, 0)), (9, (.if_icmp .gt 7, 3), (0, 0, 0)), (12, (.iconst 1, 1), (0, 0, 0)), (13, (.goto 4, 3), (0, 0, 0)), (16, (.iconst 0, 1), (0, 0, 0)), (17, (.ireturn, 1), (0, 0, 0))]
/-- MixfixBench$Lexer.isLetterOrDigit -/
def X_c61 : List (Nat × (Jvm.ClassFile.Instr × Nat) × (Nat × Nat × Nat)) := [(0, (.iload_n 0, 1), (0, 0, 0)), (1, (.invokestatic 60, 3), (60, 6, 0)), (4, (.ifCond .ne 10, 3), (0, 0, 0)), (7, (.iload_n 0, 1), (0, 0, 0)), (8, (.invokestatic 66, 3), (132, 13, 0)), (11, (.ifCond .eq 7, 3), (0, 0, 0)), (14, (.iconst 1, 1), (0, 0, 0)), (15, (.goto 4, 3), (0, 0, 0)), (18, (.iconst 0, 1), (0, 0, 0)), (19, (.ireturn, 1), (0, 0, 0))]
/-- MixfixBench$Lexer.isPartByte -/
def X_c62 : List (Nat × (Jvm.ClassFile.Instr × Nat) × (Nat × Nat × Nat)) := [(0, (.iload_n 0, 1), (0, 0, 0)), (1, (.bipush 33, 2), (0, 0, 0)), (3, (.if_icmp .lt 31, 3), (0, 0, 0)), (6, (.iload_n 0, 1), (0, 0, 0)), (7, (.bipush 126, 2), (0, 0, 0)), (9, (.if_icmp .gt 25, 3), (0, 0, 0)), (12, (.iload_n 0, 1), (0, 0, 0)), (13, (.bipush 34, 2), (0, 0, 0)), (15, (.if_icmp .eq 19, 3), (0, 0, 0)), (18, (.iload_n 0, 1), (0, 0, 0)), (19, (.bipush 40, 2), (0, 0, 0)), (21, (.if_icmp .eq 13, 3), (0, 0, 0)), (24, (.iload_n 0, 1), (0, 0, 0)), (25, (.bipush 41, 2), (0, 0, 0)), (27, (.if_icmp .eq 7, 3), (0, 0, 0)), (30, (.iconst 1, 1), (0, 0, 0)), (31, (.goto 4, 3), (0, 0, 0)), (34, (.iconst 0, 1), (0, 0, 0)), (35, (.ireturn, 1), (0, 0, 0))]
/-- MixfixBench$Lexer.isSign -/
def X_c63 : List (Nat × (Jvm.ClassFile.Instr × Nat) × (Nat × Nat × Nat)) := [(0, (.iload_n 0, 1), (0, 0, 0)), (1, (.lookupswitch 101 #[(37, 99), (42, 99), (43, 99), (45, 99), (47, 99), (58, 99), (59, 99), (60, 99), (61, 99), (64, 99), (95, 99)], 99), (0, 0, 0)), (100, (.iconst 1, 1), (0, 0, 0)), (101, (.ireturn, 1), (0, 0, 0)), (102, (.iconst 0, 1), (0, 0, 0)), (103, (.ireturn, 1), (0, 0, 0))]
/-- MixfixBench$Parser.<init> -/
def X_c64 : List (Nat × (Jvm.ClassFile.Instr × Nat) × (Nat × Nat × Nat)) := [(0, (.aload_n 0, 1), (0, 0, 0)), (1, (.invokespecial 3, 3), (9999, 269, 0)), (4, (.aload_n 0, 1), (0, 0, 0)), (5, (.iconst 0, 1), (0, 0, 0)), (6, (.putfield 9, 3), (4, 2, 22)), (9, (.aload_n 0, 1), (0, 0, 0)), (10, (.iconst (-1), 1), (0, 0, 0)), (11, (.putfield 15, 3), (4, 3, 24)), (14, (.aload_n 0, 1), (0, 0, 0)), (15, (.new 18, 3), (3, 270, 0)), (18, (.dup, 1), (0, 0, 0)), (19, (.aload_n 1, 1), (0, 0, 0)), (20, (.invokespecial 20, 3), (47, 0, 0)), (23, (.putfield 23, 3), (4, 0, 18)), (26, (.aload_n 0, 1), (0, 0, 0)), (27, (.aload_n 2, 1), (0, 0, 0)), (28, (.putfield 27, 3), (4, 1, 20)), (31, (.return_, 1), (0, 0, 0))]
/-- MixfixBench$Parser.parse -/
def X_c65 : List (Nat × (Jvm.ClassFile.Instr × Nat) × (Nat × Nat × Nat)) := [(0, (.aload_n 0, 1), (0, 0, 0)), (1, (.aload_n 1, 1), (0, 0, 0)), (2, (.putfield 27, 3), (4, 1, 20)), (5, (.aload_n 0, 1), (0, 0, 0)), (6, (.getfield 27, 3), (4, 1, 20)), (9, (.invokevirtual 31, 3), (1, 2, 0)), (12, (.aload_n 0, 1), (0, 0, 0)), (13, (.iconst 0, 1), (0, 0, 0)), (14, (.putfield 9, 3), (4, 2, 22)), (17, (.aload_n 0, 1), (0, 0, 0)), (18, (.iconst (-1), 1), (0, 0, 0)), (19, (.putfield 15, 3), (4, 3, 24)), (22, (.aload_n 0, 1), (0, 0, 0)), (23, (.getfield 23, 3), (4, 0, 18)), (26, (.invokevirtual 36, 3), (53, 4, 0)), (29, (.iconst 0, 1), (0, 0, 0)), (30, (.istore_n 2, 1), (0, 0, 0)), (31, (.iload_n 2, 1), (0, 0, 0)), (32, (.sipush 2000, 3), (0, 0, 0)), (35, (.if_icmp .gt 110, 3), (0, 0, 0)), (38, (.aload_n 0, 1), (0, 0, 0)), (39, (.getfield 9, 3), (4, 2, 22)), (42, (.ifCond .ne 103, 3), (0, 0, 0)), (45, (.aload_n 0, 1), (0, 0, 0)), (46, (.getfield 23, 3), (4, 0, 18)), (49, (.invokevirtual 39, 3), (48, 6, 0)), (52, (.ifCond .eq 93, 3), (0, 0, 0)), (55, (.aload_n 0, 1), (0, 0, 0)), (56, (.getfield 23, 3), (4, 0, 18)), (59, (.ldc2_w 43, 3), (1918987883, 591, 0)), (62, (.invokevirtual 45, 3), (51, 8, 0)), (65, (.ifCond .eq 10, 3), (0, 0, 0)), (68, (.aload_n 0, 1), (0, 0, 0)), (69, (.invokevirtual 49, 3), (69, 10, 0)), (72, (.goto 67, 3), (0, 0, 0)), (75, (.aload_n 0, 1), (0, 0, 0)), (76, (.getfield 23, 3), (4, 0, 18)), (79, (.ldc2_w 52, 3), (32766990153442674, 637, 0)), (82, (.invokevirtual 45, 3), (51, 8, 0)), (85, (.ifCond .eq 10, 3), (0, 0, 0)), (88, (.aload_n 0, 1), (0, 0, 0)), (89, (.invokevirtual 54, 3), (70, 28, 0)), (92, (.goto 47, 3), (0, 0, 0)), (95, (.aload_n 0, 1), (0, 0, 0)), (96, (.getfield 23, 3), (4, 0, 18)), (99, (.ldc2_w 57, 3), (1802071652, 662, 0)), (102, (.invokevirtual 45, 3), (51, 8, 0)), (105, (.ifCond .eq 10, 3), (0, 0, 0)), (108, (.aload_n 0, 1), (0, 0, 0)), (109, (.invokevirtual 59, 3), (71, 38, 0)), (112, (.goto 27, 3), (0, 0, 0)), (115, (.aload_n 0, 1), (0, 0, 0)), (116, (.getfield 23, 3), (4, 0, 18)), (119, (.ldc2_w 62, 3), (2003792484, 684, 0)), (122, (.invokevirtual 45, 3), (51, 8, 0)), (125, (.ifCond .eq 10, 3), (0, 0, 0)), (128, (.aload_n 0, 1), (0, 0, 0)), (129, (.invokevirtual 64, 3), (75, 46, 0)), (132, (.goto 7, 3), (0, 0, 0)), (135, (.aload_n 0, 1), (0, 0, 0)), (136, (.invokevirtual 67, 3), (67, 12, 0)), (139, (.iinc 2 1, 3), (0, 0, 0)), (142, (.goto (-111), 3), (0, 0, 0)), (145, (.aload_n 0, 1), (0, 0, 0)), (146, (.getfield 9, 3), (4, 2, 22)), (149, (.ifCond .eq 5, 3), (0, 0, 0)), (152, (.iconst 0, 1), (0, 0, 0)), (153, (.ireturn, 1), (0, 0, 0)), (154, (.aload_n 0, 1), (0, 0, 0)), (155, (.getfield 27, 3), (4, 1, 20)), (158, (.invokevirtual 70, 3), (16, 72, 0)), (161, (.iconst 1, 1), (0, 0, 0)), (162, (.ireturn, 1), (0, 0, 0))]
/-- MixfixBench$Parser.blame -/
def X_c66 : List (Nat × (Jvm.ClassFile.Instr × Nat) × (Nat × Nat × Nat)) := [(0, (.aload_n 0, 1), (0, 0, 0)), (1, (.iload_n 1, 1), (0, 0, 0)), (2, (.putfield 9, 3), (4, 2, 22)), (5, (.aload_n 0, 1), (0, 0, 0)), (6, (.iload_n 2, 1), (0, 0, 0)), (7, (.putfield 15, 3), (4, 3, 24)), (10, (.return_, 1), (0, 0, 0))]
/-- MixfixBench$Parser.refuse -/
def X_c67 : List (Nat × (Jvm.ClassFile.Instr × Nat) × (Nat × Nat × Nat)) := [(0, (.aload_n 0, 1), (0, 0, 0)), (1, (.aload_n 0, 1), (0, 0, 0)), (2, (.getfield 23, 3), (4, 0, 18)), (5, (.invokevirtual 39, 3), (48, 6, 0)), (8, (.iconst 1, 1), (0, 0, 0)), (9, (.if_icmp .ne 7, 3), (0, 0, 0)), (12, (.iconst 1, 1), (0, 0, 0)), (13, (.goto 4, 3), (0, 0, 0)), (16, (.iconst 2, 1), (0, 0, 0)), (17, (.aload_n 0, 1), (0, 0, 0)), (18, (.getfield 23, 3), (4, 0, 18)), (21, (.invokevirtual 73, 3), (49, 14, 0)), (24, (.invokevirtual 76, 3), (66, 16, 0)), (27, (.return_, 1), (0, 0, 0))]
/-- MixfixBench$Parser.pass -/
def X_c68 : List (Nat × (Jvm.ClassFile.Instr × Nat) × (Nat × Nat × Nat)) := [(0, (.aload_n 0, 1), (0, 0, 0)), (1, (.getfield 23, 3), (4, 0, 18)), (4, (.invokevirtual 39, 3), (48, 6, 0)), (7, (.iload_n 1, 1), (0, 0, 0)), (8, (.if_icmp .eq 9, 3), (0, 0, 0)), (11, (.aload_n 0, 1), (0, 0, 0)), (12, (.invokevirtual 67, 3), (67, 12, 0)), (15, (.iconst 0, 1), (0, 0, 0)), (16, (.ireturn, 1), (0, 0, 0)), (17, (.aload_n 0, 1), (0, 0, 0)), (18, (.getfield 23, 3), (4, 0, 18)), (21, (.invokevirtual 80, 3), (52, 18, 0)), (24, (.iconst 1, 1), (0, 0, 0)), (25, (.ireturn, 1), (0, 0, 0))]
/-- MixfixBench$Parser.parseRank -/
def X_c69 : List (Nat × (Jvm.ClassFile.Instr × Nat) × (Nat × Nat × Nat)) := [(0, (.aload_n 0, 1), (0, 0, 0)), (1, (.getfield 27, 3), (4, 1, 20)), (4, (.getfield 83, 3), (0, 0, 11)), (7, (.bipush 12, 2), (0, 0, 0)), (9, (.if_icmp .ne 8, 3), (0, 0, 0)), (12, (.aload_n 0, 1), (0, 0, 0)), (13, (.invokevirtual 67, 3), (67, 12, 0)), (16, (.return_, 1), (0, 0, 0)), (17, (.aload_n 0, 1), (0, 0, 0)), (18, (.getfield 23, 3), (4, 0, 18)), (21, (.invokevirtual 80, 3), (52, 18, 0)), (24, (.aload_n 0, 1), (0, 0, 0)), (25, (.getfield 23, 3), (4, 0, 18)), (28, (.invokevirtual 39, 3), (48, 6, 0)), (31, (.iconst 2, 1), (0, 0, 0)), (32, (.if_icmp .eq 10, 3), (0, 0, 0)), (35, (.aload_n 0, 1), (0, 0, 0)), (36, (.invokevirtual 67, 3), (67, 12, 0)), (39, (.goto 64, 3), (0, 0, 0)), (42, (.aload_n 0, 1), (0, 0, 0)), (43, (.getfield 27, 3), (4, 1, 20)), (46, (.aload_n 0, 1), (0, 0, 0)), (47, (.getfield 23, 3), (4, 0, 18)), (50, (.invokevirtual 86, 3), (50, 20, 0)), (53, (.invokevirtual 90, 3), (5, 22, 0)), (56, (.iconst (-1), 1), (0, 0, 0)), (57, (.if_icmp .eq 18, 3), (0, 0, 0)), (60, (.aload_n 0, 1), (0, 0, 0)), (61, (.iconst 3, 1), (0, 0, 0)), (62, (.aload_n 0, 1), (0, 0, 0)), (63, (.getfield 23, 3), (4, 0, 18)), (66, (.invokevirtual 73, 3), (49, 14, 0)), (69, (.invokevirtual 76, 3), (66, 16, 0)), (72, (.goto 31, 3), (0, 0, 0)), (75, (.aload_n 0, 1), (0, 0, 0)), (76, (.getfield 27, 3), (4, 1, 20)), (79, (.aload_n 0, 1), (0, 0, 0)), (80, (.getfield 23, 3), (4, 0, 18)), (83, (.invokevirtual 86, 3), (50, 20, 0)), (86, (.invokevirtual 94, 3), (8, 24, 0)), (89, (.aload_n 0, 1), (0, 0, 0)), (90, (.getfield 23, 3), (4, 0, 18)), (93, (.invokevirtual 80, 3), (52, 18, 0)), (96, (.aload_n 0, 1), (0, 0, 0)), (97, (.bipush 59, 2), (0, 0, 0)), (99, (.invokevirtual 98, 3), (68, 26, 0)), (102, (.pop, 1), (0, 0, 0)), (103, (.return_, 1), (0, 0, 0))]
/-- MixfixBench$Parser.parseTighter -/
def X_c70 : List (Nat × (Jvm.ClassFile.Instr × Nat) × (Nat × Nat × Nat)) := [(0, (.aload_n 0, 1), (0, 0, 0)), (1, (.getfield 23, 3), (4, 0, 18)), (4, (.invokevirtual 80, 3), (52, 18, 0)), (7, (.aload_n 0, 1), (0, 0, 0)), (8, (.invokevirtual 102, 3), (72, 30, 0)), (11, (.istore_n 1, 1), (0, 0, 0)), (12, (.iload_n 1, 1), (0, 0, 0)), (13, (.iconst (-1), 1), (0, 0, 0)), (14, (.if_icmp .ne 4, 3), (0, 0, 0)), (17, (.return_, 1), (0, 0, 0)), (18, (.aload_n 0, 1), (0, 0, 0)), (19, (.getfield 23, 3), (4, 0, 18)), (22, (.invokevirtual 73, 3), (49, 14, 0)), (25, (.istore_n 2, 1), (0, 0, 0)), (26, (.aload_n 0, 1), (0, 0, 0)), (27, (.invokevirtual 102, 3), (72, 30, 0)), (30, (.istore_n 3, 1), (0, 0, 0)), (31, (.iload_n 3, 1), (0, 0, 0)), (32, (.iconst (-1), 1), (0, 0, 0)), (33, (.if_icmp .ne 4, 3), (0, 0, 0)), (36, (.return_, 1), (0, 0, 0)), (37, (.iload_n 1, 1), (0, 0, 0)), (38, (.iload_n 3, 1), (0, 0, 0)), (39, (.if_icmp .eq 15, 3), (0, 0, 0)), (42, (.aload_n 0, 1), (0, 0, 0)), (43, (.getfield 27, 3), (4, 1, 20)), (46, (.iload_n 3, 1), (0, 0, 0)), (47, (.iload_n 1, 1), (0, 0, 0)), (48, (.invokevirtual 105, 3), (11, 34, 0)), (51, (.ifCond .eq 10, 3), (0, 0, 0)), (54, (.aload_n 0, 1), (0, 0, 0)), (55, (.iconst 4, 1), (0, 0, 0)), (56, (.iload_n 2, 1), (0, 0, 0)), (57, (.invokevirtual 76, 3), (66, 16, 0)), (60, (.return_, 1), (0, 0, 0)), (61, (.aload_n 0, 1), (0, 0, 0)), (62, (.getfield 27, 3), (4, 1, 20)), (65, (.iload_n 1, 1), (0, 0, 0)), (66, (.iload_n 3, 1), (0, 0, 0)), (67, (.invokevirtual 109, 3), (10, 36, 0)), (70, (.aload_n 0, 1), (0, 0, 0)), (71, (.bipush 59, 2), (0, 0, 0)), (73, (.invokevirtual 98, 3), (68, 26, 0)), (76, (.pop, 1), (0, 0, 0)), (77, (.return_, 1), (0, 0, 0))]
/-- MixfixBench$Parser.parseKind -/
def X_c71 : List (Nat × (Jvm.ClassFile.Instr × Nat) × (Nat × Nat × Nat)) := [(0, (.aload_n 0, 1), (0, 0, 0)), (1, (.getfield 27, 3), (4, 1, 20)), (4, (.getfield 112, 3), (0, 1, 13)), (7, (.bipush 11, 2), (0, 0, 0)), (9, (.if_icmp .ne 8, 3), (0, 0, 0)), (12, (.aload_n 0, 1), (0, 0, 0)), (13, (.invokevirtual 67, 3), (67, 12, 0)), (16, (.return_, 1), (0, 0, 0)), (17, (.aload_n 0, 1), (0, 0, 0)), (18, (.getfield 23, 3), (4, 0, 18)), (21, (.invokevirtual 80, 3), (52, 18, 0)), (24, (.aload_n 0, 1), (0, 0, 0)), (25, (.getfield 23, 3), (4, 0, 18)), (28, (.invokevirtual 39, 3), (48, 6, 0)), (31, (.iconst 2, 1), (0, 0, 0)), (32, (.if_icmp .eq 8, 3), (0, 0, 0)), (35, (.aload_n 0, 1), (0, 0, 0)), (36, (.invokevirtual 67, 3), (67, 12, 0)), (39, (.return_, 1), (0, 0, 0)), (40, (.aload_n 0, 1), (0, 0, 0)), (41, (.getfield 27, 3), (4, 1, 20)), (44, (.aload_n 0, 1), (0, 0, 0)), (45, (.getfield 23, 3), (4, 0, 18)), (48, (.invokevirtual 86, 3), (50, 20, 0)), (51, (.invokevirtual 115, 3), (6, 40, 0)), (54, (.iconst (-1), 1), (0, 0, 0)), (55, (.if_icmp .eq 16, 3), (0, 0, 0)), (58, (.aload_n 0, 1), (0, 0, 0)), (59, (.iconst 3, 1), (0, 0, 0)), (60, (.aload_n 0, 1), (0, 0, 0)), (61, (.getfield 23, 3), (4, 0, 18)), (64, (.invokevirtual 73, 3), (49, 14, 0)), (67, (.invokevirtual 76, 3), (66, 16, 0)), (70, (.return_, 1), (0, 0, 0)), (71, (.aload_n 0, 1), (0, 0, 0)), (72, (.getfield 23, 3), (4, 0, 18)), (75, (.invokevirtual 86, 3), (50, 20, 0)), (78, (.lstore_n 1, 1), (0, 0, 0)), (79, (.iconst 0, 1), (0, 0, 0)), (80, (.istore_n 3, 1), (0, 0, 0)), (81, (.aload_n 0, 1), (0, 0, 0)), (82, (.getfield 23, 3), (4, 0, 18)), (85, (.invokevirtual 80, 3), (52, 18, 0)), (88, (.aload_n 0, 1), (0, 0, 0)), (89, (.getfield 23, 3), (4, 0, 18)), (92, (.ldc2_w 118, 3), (504363246962, 671, 0)), (95, (.invokevirtual 45, 3), (51, 8, 0)), (98, (.ifCond .eq 15, 3), (0, 0, 0)), (101, (.aload_n 0, 1), (0, 0, 0)), (102, (.getfield 23, 3), (4, 0, 18)), (105, (.invokevirtual 80, 3), (52, 18, 0)), (108, (.aload_n 0, 1), (0, 0, 0)), (109, (.invokevirtual 120, 3), (73, 42, 0)), (112, (.istore_n 3, 1), (0, 0, 0)), (113, (.iload_n 3, 1), (0, 0, 0)), (114, (.iconst (-1), 1), (0, 0, 0)), (115, (.if_icmp .eq 21, 3), (0, 0, 0)), (118, (.aload_n 0, 1), (0, 0, 0)), (119, (.bipush 59, 2), (0, 0, 0)), (121, (.invokevirtual 98, 3), (68, 26, 0)), (124, (.ifCond .eq 12, 3), (0, 0, 0)), (127, (.aload_n 0, 1), (0, 0, 0)), (128, (.getfield 27, 3), (4, 1, 20)), (131, (.lload_n 1, 1), (0, 0, 0)), (132, (.iload_n 3, 1), (0, 0, 0)), (133, (.invokevirtual 123, 3), (9, 44, 0)), (136, (.return_, 1), (0, 0, 0))]
/-- MixfixBench$Parser.passRank -/
def X_c72 : List (Nat × (Jvm.ClassFile.Instr × Nat) × (Nat × Nat × Nat)) := [(0, (.aload_n 0, 1), (0, 0, 0)), (1, (.getfield 23, 3), (4, 0, 18)), (4, (.invokevirtual 39, 3), (48, 6, 0)), (7, (.iconst 2, 1), (0, 0, 0)), (8, (.if_icmp .eq 9, 3), (0, 0, 0)), (11, (.aload_n 0, 1), (0, 0, 0)), (12, (.invokevirtual 67, 3), (67, 12, 0)), (15, (.iconst (-1), 1), (0, 0, 0)), (16, (.ireturn, 1), (0, 0, 0)), (17, (.aload_n 0, 1), (0, 0, 0)), (18, (.aload_n 0, 1), (0, 0, 0)), (19, (.getfield 27, 3), (4, 1, 20)), (22, (.aload_n 0, 1), (0, 0, 0)), (23, (.getfield 23, 3), (4, 0, 18)), (26, (.invokevirtual 86, 3), (50, 20, 0)), (29, (.invokevirtual 90, 3), (5, 22, 0)), (32, (.invokevirtual 127, 3), (74, 32, 0)), (35, (.ireturn, 1), (0, 0, 0))]
/-- MixfixBench$Parser.passKind -/
def X_c73 : List (Nat × (Jvm.ClassFile.Instr × Nat) × (Nat × Nat × Nat)) := [(0, (.aload_n 0, 1), (0, 0, 0)), (1, (.getfield 23, 3), (4, 0, 18)), (4, (.invokevirtual 39, 3), (48, 6, 0)), (7, (.iconst 2, 1), (0, 0, 0)), (8, (.if_icmp .eq 9, 3), (0, 0, 0)), (11, (.aload_n 0, 1), (0, 0, 0)), (12, (.invokevirtual 67, 3), (67, 12, 0)), (15, (.iconst (-1), 1), (0, 0, 0)), (16, (.ireturn, 1), (0, 0, 0)), (17, (.aload_n 0, 1), (0, 0, 0)), (18, (.aload_n 0, 1), (0, 0, 0)), (19, (.getfield 27, 3), (4, 1, 20)), (22, (.aload_n 0, 1), (0, 0, 0)), (23, (.getfield 23, 3), (4, 0, 18)), (26, (.invokevirtual 86, 3), (50, 20, 0)), (29, (.invokevirtual 115, 3), (6, 40, 0)), (32, (.invokevirtual 127, 3), (74, 32, 0)), (35, (.ireturn, 1), (0, 0, 0))]
/-- MixfixBench$Parser.passName -/
def X_c74 : List (Nat × (Jvm.ClassFile.Instr × Nat) × (Nat × Nat × Nat)) := [(0, (.iload_n 1, 1), (0, 0, 0)), (1, (.iconst (-1), 1), (0, 0, 0)), (2, (.if_icmp .ne 18, 3), (0, 0, 0)), (5, (.aload_n 0, 1), (0, 0, 0)), (6, (.iconst 3, 1), (0, 0, 0)), (7, (.aload_n 0, 1), (0, 0, 0)), (8, (.getfield 23, 3), (4, 0, 18)), (11, (.invokevirtual 73, 3), (49, 14, 0)), (14, (.invokevirtual 76, 3), (66, 16, 0)), (17, (.goto 10, 3), (0, 0, 0)), (20, (.aload_n 0, 1), (0, 0, 0)), (21, (.getfield 23, 3), (4, 0, 18)), (24, (.invokevirtual 80, 3), (52, 18, 0)), (27, (.iload_n 1, 1), (0, 0, 0)), (28, (.ireturn, 1), (0, 0, 0))]
/-- MixfixBench$Parser.parseWord -/
def X_c75 : List (Nat × (Jvm.ClassFile.Instr × Nat) × (Nat × Nat × Nat)) := [(0, (.aload_n 0, 1), (0, 0, 0)), (1, (.getfield 27, 3), (4, 1, 20)), (4, (.getfield 131, 3), (0, 2, 15)), (7, (.bipush 30, 2), (0, 0, 0)), (9, (.if_icmp .ne 8, 3), (0, 0, 0)), (12, (.aload_n 0, 1), (0, 0, 0)), (13, (.invokevirtual 67, 3), (67, 12, 0)), (16, (.return_, 1), (0, 0, 0)), (17, (.aload_n 0, 1), (0, 0, 0)), (18, (.getfield 23, 3), (4, 0, 18)), (21, (.invokevirtual 80, 3), (52, 18, 0)), (24, (.aload_n 0, 1), (0, 0, 0)), (25, (.invokevirtual 102, 3), (72, 30, 0)), (28, (.istore_n 1, 1), (0, 0, 0)), (29, (.iload_n 1, 1), (0, 0, 0)), (30, (.iconst (-1), 1), (0, 0, 0)), (31, (.if_icmp .ne 4, 3), (0, 0, 0)), (34, (.return_, 1), (0, 0, 0)), (35, (.aload_n 0, 1), (0, 0, 0)), (36, (.getfield 27, 3), (4, 1, 20)), (39, (.getfield 134, 3), (0, 7, 17)), (42, (.aload_n 0, 1), (0, 0, 0)), (43, (.getfield 27, 3), (4, 1, 20)), (46, (.getfield 131, 3), (0, 2, 15)), (49, (.aaload, 1), (0, 0, 0)), (50, (.astore_n 2, 1), (0, 0, 0)), (51, (.aload_n 2, 1), (0, 0, 0)), (52, (.iload_n 1, 1), (0, 0, 0)), (53, (.invokevirtual 138, 3), (95, 48, 0)), (56, (.aload_n 0, 1), (0, 0, 0)), (57, (.aload_n 2, 1), (0, 0, 0)), (58, (.invokevirtual 143, 3), (76, 50, 0)), (61, (.aload_n 2, 1), (0, 0, 0)), (62, (.aload_n 0, 1), (0, 0, 0)), (63, (.getfield 23, 3), (4, 0, 18)), (66, (.invokevirtual 39, 3), (48, 6, 0)), (69, (.iconst 2, 1), (0, 0, 0)), (70, (.if_icmp .ne 10, 3), (0, 0, 0)), (73, (.aload_n 0, 1), (0, 0, 0)), (74, (.invokevirtual 120, 3), (73, 42, 0)), (77, (.goto 4, 3), (0, 0, 0)), (80, (.iconst 0, 1), (0, 0, 0)), (81, (.putfield 147, 3), (8, 2, 3)), (84, (.aload_n 0, 1), (0, 0, 0)), (85, (.getfield 23, 3), (4, 0, 18)), (88, (.invokevirtual 73, 3), (49, 14, 0)), (91, (.istore_n 3, 1), (0, 0, 0)), (92, (.aload_n 2, 1), (0, 0, 0)), (93, (.getfield 147, 3), (8, 2, 3)), (96, (.iconst (-1), 1), (0, 0, 0)), (97, (.if_icmp .eq 20, 3), (0, 0, 0)), (100, (.aload_n 0, 1), (0, 0, 0)), (101, (.bipush 58, 2), (0, 0, 0)), (103, (.invokevirtual 98, 3), (68, 26, 0)), (106, (.ifCond .eq 11, 3), (0, 0, 0)), (109, (.aload_n 0, 1), (0, 0, 0)), (110, (.aload_n 2, 1), (0, 0, 0)), (111, (.invokevirtual 150, 3), (77, 52, 0)), (114, (.ifCond .ne 4, 3), (0, 0, 0)), (117, (.return_, 1), (0, 0, 0)), (118, (.aload_n 2, 1), (0, 0, 0)), (119, (.getfield 154, 3), (8, 1, 1)), (122, (.ifCond .eq 19, 3), (0, 0, 0)), (125, (.aload_n 2, 1), (0, 0, 0)), (126, (.invokevirtual 157, 3), (102, 60, 0)), (129, (.ifCond .eq 12, 3), (0, 0, 0)), (132, (.aload_n 0, 1), (0, 0, 0)), (133, (.iconst 2, 1), (0, 0, 0)), (134, (.iload_n 3, 1), (0, 0, 0)), (135, (.invokevirtual 76, 3), (66, 16, 0)), (138, (.goto 66, 3), (0, 0, 0)), (141, (.aload_n 2, 1), (0, 0, 0)), (142, (.getfield 161, 3), (8, 4, 7)), (145, (.aload_n 2, 1), (0, 0, 0)), (146, (.getfield 164, 3), (8, 3, 5)), (149, (.if_icmp .ne 10, 3), (0, 0, 0)), (152, (.aload_n 0, 1), (0, 0, 0)), (153, (.invokevirtual 67, 3), (67, 12, 0)), (156, (.goto 48, 3), (0, 0, 0)), (159, (.aload_n 0, 1), (0, 0, 0)), (160, (.getfield 23, 3), (4, 0, 18)), (163, (.invokevirtual 39, 3), (48, 6, 0)), (166, (.bipush 61, 2), (0, 0, 0)), (168, (.if_icmp .ne 14, 3), (0, 0, 0)), (171, (.aload_n 0, 1), (0, 0, 0)), (172, (.aload_n 2, 1), (0, 0, 0)), (173, (.invokevirtual 167, 3), (78, 62, 0)), (176, (.ifCond .eq 28, 3), (0, 0, 0)), (179, (.goto 12, 3), (0, 0, 0)), (182, (.aload_n 0, 1), (0, 0, 0)), (183, (.bipush 59, 2), (0, 0, 0)), (185, (.invokevirtual 98, 3), (68, 26, 0)), (188, (.ifCond .eq 16, 3), (0, 0, 0)), (191, (.aload_n 0, 1), (0, 0, 0)), (192, (.getfield 27, 3), (4, 1, 20)), (195, (.dup, 1), (0, 0, 0)), (196, (.getfield 131, 3), (0, 2, 15)), (199, (.iconst 1, 1), (0, 0, 0)), (200, (.iadd, 1), (0, 0, 0)), (201, (.putfield 131, 3), (0, 2, 15)), (204, (.return_, 1), (0, 0, 0))]
/-- MixfixBench$Parser.parseLean -/
def X_c76 : List (Nat × (Jvm.ClassFile.Instr × Nat) × (Nat × Nat × Nat)) := [(0, (.aload_n 0, 1), (0, 0, 0)), (1, (.getfield 23, 3), (4, 0, 18)), (4, (.ldc2_w 170, 3), (1818584692, 697, 0)), (7, (.invokevirtual 45, 3), (51, 8, 0)), (10, (.ifCond .eq 18, 3), (0, 0, 0)), (13, (.aload_n 1, 1), (0, 0, 0)), (14, (.iconst 1, 1), (0, 0, 0)), (15, (.putfield 154, 3), (8, 1, 1)), (18, (.aload_n 0, 1), (0, 0, 0)), (19, (.getfield 23, 3), (4, 0, 18)), (22, (.invokevirtual 80, 3), (52, 18, 0)), (25, (.goto 28, 3), (0, 0, 0)), (28, (.aload_n 0, 1), (0, 0, 0)), (29, (.getfield 23, 3), (4, 0, 18)), (32, (.ldc2_w 172, 3), (491394656372, 698, 0)), (35, (.invokevirtual 45, 3), (51, 8, 0)), (38, (.ifCond .eq 15, 3), (0, 0, 0)), (41, (.aload_n 1, 1), (0, 0, 0)), (42, (.iconst 2, 1), (0, 0, 0)), (43, (.putfield 154, 3), (8, 1, 1)), (46, (.aload_n 0, 1), (0, 0, 0)), (47, (.getfield 23, 3), (4, 0, 18)), (50, (.invokevirtual 80, 3), (52, 18, 0)), (53, (.return_, 1), (0, 0, 0))]
/-- MixfixBench$Parser.parseElements -/
def X_c77 : List (Nat × (Jvm.ClassFile.Instr × Nat) × (Nat × Nat × Nat)) := [(0, (.iconst 0, 1), (0, 0, 0)), (1, (.istore_n 2, 1), (0, 0, 0)), (2, (.iload_n 2, 1), (0, 0, 0)), (3, (.bipush 8, 2), (0, 0, 0)), (5, (.if_icmp .gt 164, 3), (0, 0, 0)), (8, (.aload_n 0, 1), (0, 0, 0)), (9, (.getfield 23, 3), (4, 0, 18)), (12, (.invokevirtual 39, 3), (48, 6, 0)), (15, (.bipush 61, 2), (0, 0, 0)), (17, (.if_icmp .eq 15, 3), (0, 0, 0)), (20, (.aload_n 0, 1), (0, 0, 0)), (21, (.getfield 23, 3), (4, 0, 18)), (24, (.invokevirtual 39, 3), (48, 6, 0)), (27, (.bipush 59, 2), (0, 0, 0)), (29, (.if_icmp .ne 5, 3), (0, 0, 0)), (32, (.iconst 1, 1), (0, 0, 0)), (33, (.ireturn, 1), (0, 0, 0)), (34, (.aload_n 0, 1), (0, 0, 0)), (35, (.getfield 23, 3), (4, 0, 18)), (38, (.invokevirtual 39, 3), (48, 6, 0)), (41, (.bipush 6, 2), (0, 0, 0)), (43, (.if_icmp .ne 16, 3), (0, 0, 0)), (46, (.aload_n 1, 1), (0, 0, 0)), (47, (.getfield 164, 3), (8, 3, 5)), (50, (.bipush 8, 2), (0, 0, 0)), (52, (.if_icmp .ge 7, 3), (0, 0, 0)), (55, (.iconst 1, 1), (0, 0, 0)), (56, (.goto 4, 3), (0, 0, 0)), (59, (.iconst 0, 1), (0, 0, 0)), (60, (.istore_n 3, 1), (0, 0, 0)), (61, (.aload_n 0, 1), (0, 0, 0)), (62, (.getfield 23, 3), (4, 0, 18)), (65, (.invokevirtual 39, 3), (48, 6, 0)), (68, (.bipush 95, 2), (0, 0, 0)), (70, (.if_icmp .ne 14, 3), (0, 0, 0)), (73, (.aload_n 1, 1), (0, 0, 0)), (74, (.invokevirtual 174, 3), (97, 54, 0)), (77, (.ifCond .eq 7, 3), (0, 0, 0)), (80, (.iconst 1, 1), (0, 0, 0)), (81, (.goto 4, 3), (0, 0, 0)), (84, (.iconst 0, 1), (0, 0, 0)), (85, (.istore 4, 2), (0, 0, 0)), (87, (.iload_n 3, 1), (0, 0, 0)), (88, (.ifCond .ne 11, 3), (0, 0, 0)), (91, (.iload 4, 2), (0, 0, 0)), (93, (.ifCond .ne 6, 3), (0, 0, 0)), (96, (.goto 73, 3), (0, 0, 0)), (99, (.aload_n 0, 1), (0, 0, 0)), (100, (.getfield 23, 3), (4, 0, 18)), (103, (.invokevirtual 86, 3), (50, 20, 0)), (106, (.lstore 5, 2), (0, 0, 0)), (108, (.aload_n 0, 1), (0, 0, 0)), (109, (.getfield 23, 3), (4, 0, 18)), (112, (.invokevirtual 80, 3), (52, 18, 0)), (115, (.iload_n 3, 1), (0, 0, 0)), (116, (.ifCond .eq 12, 3), (0, 0, 0)), (119, (.aload_n 1, 1), (0, 0, 0)), (120, (.lload 5, 2), (0, 0, 0)), (122, (.invokevirtual 177, 3), (96, 56, 0)), (125, (.goto 38, 3), (0, 0, 0)), (128, (.aload_n 0, 1), (0, 0, 0)), (129, (.getfield 23, 3), (4, 0, 18)), (132, (.invokevirtual 39, 3), (48, 6, 0)), (135, (.iconst 2, 1), (0, 0, 0)), (136, (.if_icmp .ne 10, 3), (0, 0, 0)), (139, (.aload_n 0, 1), (0, 0, 0)), (140, (.invokevirtual 120, 3), (73, 42, 0)), (143, (.goto 4, 3), (0, 0, 0)), (146, (.iconst 0, 1), (0, 0, 0)), (147, (.istore 7, 2), (0, 0, 0)), (149, (.iload 7, 2), (0, 0, 0)), (151, (.iconst (-1), 1), (0, 0, 0)), (152, (.if_icmp .ne 5, 3), (0, 0, 0)), (155, (.iconst 0, 1), (0, 0, 0)), (156, (.ireturn, 1), (0, 0, 0)), (157, (.aload_n 1, 1), (0, 0, 0)), (158, (.iload 7, 2), (0, 0, 0)), (160, (.invokevirtual 180, 3), (98, 58, 0)), (163, (.iinc 2 1, 3), (0, 0, 0)), (166, (.goto (-164), 3), (0, 0, 0)), (169, (.aload_n 0, 1), (0, 0, 0)), (170, (.invokevirtual 67, 3), (67, 12, 0)), (173, (.iconst 0, 1), (0, 0, 0)), (174, (.ireturn, 1), (0, 0, 0))]
/-- MixfixBench$Parser.parseSteps -/
def X_c78 : List (Nat × (Jvm.ClassFile.Instr × Nat) × (Nat × Nat × Nat)) := [(0, (.iconst 0, 1), (0, 0, 0)), (1, (.istore_n 2, 1), (0, 0, 0)), (2, (.aload_n 1, 1), (0, 0, 0)), (3, (.iconst 0, 1), (0, 0, 0)), (4, (.putfield 183, 3), (8, 5, 9)), (7, (.aload_n 0, 1), (0, 0, 0)), (8, (.getfield 23, 3), (4, 0, 18)), (11, (.invokevirtual 80, 3), (52, 18, 0)), (14, (.iconst 0, 1), (0, 0, 0)), (15, (.istore_n 3, 1), (0, 0, 0)), (16, (.iload_n 3, 1), (0, 0, 0)), (17, (.bipush 30, 2), (0, 0, 0)), (19, (.if_icmp .ge 35, 3), (0, 0, 0)), (22, (.aload_n 0, 1), (0, 0, 0)), (23, (.getfield 23, 3), (4, 0, 18)), (26, (.invokevirtual 39, 3), (48, 6, 0)), (29, (.bipush 59, 2), (0, 0, 0)), (31, (.if_icmp .eq 23, 3), (0, 0, 0)), (34, (.aload_n 0, 1), (0, 0, 0)), (35, (.aload_n 1, 1), (0, 0, 0)), (36, (.iload_n 2, 1), (0, 0, 0)), (37, (.invokevirtual 186, 3), (79, 64, 0)), (40, (.istore_n 2, 1), (0, 0, 0)), (41, (.iload_n 2, 1), (0, 0, 0)), (42, (.iconst (-1), 1), (0, 0, 0)), (43, (.if_icmp .ne 5, 3), (0, 0, 0)), (46, (.iconst 0, 1), (0, 0, 0)), (47, (.ireturn, 1), (0, 0, 0)), (48, (.iinc 3 1, 3), (0, 0, 0)), (51, (.goto (-35), 3), (0, 0, 0)), (54, (.aload_n 0, 1), (0, 0, 0)), (55, (.getfield 23, 3), (4, 0, 18)), (58, (.invokevirtual 39, 3), (48, 6, 0)), (61, (.bipush 59, 2), (0, 0, 0)), (63, (.if_icmp .eq 10, 3), (0, 0, 0)), (66, (.aload_n 0, 1), (0, 0, 0)), (67, (.invokevirtual 67, 3), (67, 12, 0)), (70, (.goto 30, 3), (0, 0, 0)), (73, (.iload_n 2, 1), (0, 0, 0)), (74, (.iconst 1, 1), (0, 0, 0)), (75, (.if_icmp .eq 18, 3), (0, 0, 0)), (78, (.aload_n 0, 1), (0, 0, 0)), (79, (.iconst 5, 1), (0, 0, 0)), (80, (.aload_n 0, 1), (0, 0, 0)), (81, (.getfield 23, 3), (4, 0, 18)), (84, (.invokevirtual 73, 3), (49, 14, 0)), (87, (.invokevirtual 76, 3), (66, 16, 0)), (90, (.goto 10, 3), (0, 0, 0)), (93, (.aload_n 0, 1), (0, 0, 0)), (94, (.getfield 23, 3), (4, 0, 18)), (97, (.invokevirtual 80, 3), (52, 18, 0)), (100, (.aload_n 0, 1), (0, 0, 0)), (101, (.getfield 9, 3), (4, 2, 22)), (104, (.ifCond .ne 7, 3), (0, 0, 0)), (107, (.iconst 1, 1), (0, 0, 0)), (108, (.goto 4, 3), (0, 0, 0)), (111, (.iconst 0, 1), (0, 0, 0)), (112, (.ireturn, 1), (0, 0, 0))]
/-- MixfixBench$Parser.parseStep -/
def X_c79 : List (Nat × (Jvm.ClassFile.Instr × Nat) × (Nat × Nat × Nat)) := [(0, (.aload_n 0, 1), (0, 0, 0)), (1, (.getfield 23, 3), (4, 0, 18)), (4, (.invokevirtual 73, 3), (49, 14, 0)), (7, (.istore_n 3, 1), (0, 0, 0)), (8, (.aload_n 0, 1), (0, 0, 0)), (9, (.invokevirtual 190, 3), (80, 66, 0)), (12, (.ifCond .eq 7, 3), (0, 0, 0)), (15, (.iconst 4, 1), (0, 0, 0)), (16, (.goto 10, 3), (0, 0, 0)), (19, (.aload_n 0, 1), (0, 0, 0)), (20, (.getfield 23, 3), (4, 0, 18)), (23, (.invokevirtual 39, 3), (48, 6, 0)), (26, (.istore 4, 2), (0, 0, 0)), (28, (.iload 4, 2), (0, 0, 0)), (30, (.bipush 64, 2), (0, 0, 0)), (32, (.if_icmp .ne 27, 3), (0, 0, 0)), (35, (.aload_n 0, 1), (0, 0, 0)), (36, (.getfield 23, 3), (4, 0, 18)), (39, (.invokevirtual 80, 3), (52, 18, 0)), (42, (.aload_n 0, 1), (0, 0, 0)), (43, (.getfield 23, 3), (4, 0, 18)), (46, (.invokevirtual 39, 3), (48, 6, 0)), (49, (.iconst 5, 1), (0, 0, 0)), (50, (.if_icmp .eq 29, 3), (0, 0, 0)), (53, (.aload_n 0, 1), (0, 0, 0)), (54, (.invokevirtual 67, 3), (67, 12, 0)), (57, (.iconst (-1), 1), (0, 0, 0)), (58, (.ireturn, 1), (0, 0, 0)), (59, (.iload 4, 2), (0, 0, 0)), (61, (.iconst 4, 1), (0, 0, 0)), (62, (.if_icmp .eq 17, 3), (0, 0, 0)), (65, (.iload 4, 2), (0, 0, 0)), (67, (.invokestatic 193, 3), (81, 68, 0)), (70, (.ifCond .ne 9, 3), (0, 0, 0)), (73, (.aload_n 0, 1), (0, 0, 0)), (74, (.invokevirtual 67, 3), (67, 12, 0)), (77, (.iconst (-1), 1), (0, 0, 0)), (78, (.ireturn, 1), (0, 0, 0)), (79, (.aload_n 0, 1), (0, 0, 0)), (80, (.getfield 23, 3), (4, 0, 18)), (83, (.invokevirtual 86, 3), (50, 20, 0)), (86, (.l2i, 1), (0, 0, 0)), (87, (.istore 5, 2), (0, 0, 0)), (89, (.iload 4, 2), (0, 0, 0)), (91, (.bipush 64, 2), (0, 0, 0)), (93, (.if_icmp .ne 22, 3), (0, 0, 0)), (96, (.iload 5, 2), (0, 0, 0)), (98, (.iconst 1, 1), (0, 0, 0)), (99, (.if_icmp .lt 12, 3), (0, 0, 0)), (102, (.iload 5, 2), (0, 0, 0)), (104, (.aload_n 1, 1), (0, 0, 0)), (105, (.getfield 161, 3), (8, 4, 7)), (108, (.if_icmp .le 7, 3), (0, 0, 0)), (111, (.iconst 1, 1), (0, 0, 0)), (112, (.goto 4, 3), (0, 0, 0)), (115, (.iconst 0, 1), (0, 0, 0)), (116, (.istore 6, 2), (0, 0, 0)), (118, (.iload 4, 2), (0, 0, 0)), (120, (.invokestatic 193, 3), (81, 68, 0)), (123, (.ifCond .ne 13, 3), (0, 0, 0)), (126, (.iload_n 2, 1), (0, 0, 0)), (127, (.bipush 16, 2), (0, 0, 0)), (129, (.if_icmp .ne 7, 3), (0, 0, 0)), (132, (.iconst 1, 1), (0, 0, 0)), (133, (.goto 4, 3), (0, 0, 0)), (136, (.iconst 0, 1), (0, 0, 0)), (137, (.istore 7, 2), (0, 0, 0)), (139, (.iload 4, 2), (0, 0, 0)), (141, (.invokestatic 193, 3), (81, 68, 0)), (144, (.ifCond .eq 12, 3), (0, 0, 0)), (147, (.iload_n 2, 1), (0, 0, 0)), (148, (.iconst 2, 1), (0, 0, 0)), (149, (.if_icmp .ge 7, 3), (0, 0, 0)), (152, (.iconst 1, 1), (0, 0, 0)), (153, (.goto 4, 3), (0, 0, 0)), (156, (.iconst 0, 1), (0, 0, 0)), (157, (.istore 8, 2), (0, 0, 0)), (159, (.iload 6, 2), (0, 0, 0)), (161, (.ifCond .ne 13, 3), (0, 0, 0)), (164, (.iload 7, 2), (0, 0, 0)), (166, (.ifCond .ne 8, 3), (0, 0, 0)), (169, (.iload 8, 2), (0, 0, 0)), (171, (.ifCond .eq 11, 3), (0, 0, 0)), (174, (.aload_n 0, 1), (0, 0, 0)), (175, (.iconst 5, 1), (0, 0, 0)), (176, (.iload_n 3, 1), (0, 0, 0)), (177, (.invokevirtual 76, 3), (66, 16, 0)), (180, (.iconst (-1), 1), (0, 0, 0)), (181, (.ireturn, 1), (0, 0, 0)), (182, (.aload_n 1, 1), (0, 0, 0)), (183, (.iload 4, 2), (0, 0, 0)), (185, (.iload 5, 2), (0, 0, 0)), (187, (.invokevirtual 196, 3), (99, 70, 0)), (190, (.aload_n 0, 1), (0, 0, 0)), (191, (.getfield 23, 3), (4, 0, 18)), (194, (.invokevirtual 80, 3), (52, 18, 0)), (197, (.iload 4, 2), (0, 0, 0)), (199, (.invokestatic 193, 3), (81, 68, 0)), (202, (.ifCond .eq 9, 3), (0, 0, 0)), (205, (.iload_n 2, 1), (0, 0, 0)), (206, (.iconst 1, 1), (0, 0, 0)), (207, (.isub, 1), (0, 0, 0)), (208, (.goto 6, 3), (0, 0, 0)), (211, (.iload_n 2, 1), (0, 0, 0)), (212, (.iconst 1, 1), (0, 0, 0)), (213, (.iadd, 1), (0, 0, 0)), (214, (.ireturn, 1), (0, 0, 0))]
/-- MixfixBench$Parser.isNumber -/
def X_c80 : List (Nat × (Jvm.ClassFile.Instr × Nat) × (Nat × Nat × Nat)) := [(0, (.aload_n 0, 1), (0, 0, 0)), (1, (.getfield 23, 3), (4, 0, 18)), (4, (.invokevirtual 39, 3), (48, 6, 0)), (7, (.iconst 4, 1), (0, 0, 0)), (8, (.if_icmp .eq 14, 3), (0, 0, 0)), (11, (.aload_n 0, 1), (0, 0, 0)), (12, (.getfield 23, 3), (4, 0, 18)), (15, (.invokevirtual 39, 3), (48, 6, 0)), (18, (.iconst 5, 1), (0, 0, 0)), (19, (.if_icmp .ne 7, 3), (0, 0, 0)), (22, (.iconst 1, 1), (0, 0, 0)), (23, (.goto 4, 3), (0, 0, 0)), (26, (.iconst 0, 1), (0, 0, 0)), (27, (.ireturn, 1), (0, 0, 0))]
/-- MixfixBench$Parser.isOperation -/
def X_c81 : List (Nat × (Jvm.ClassFile.Instr × Nat) × (Nat × Nat × Nat)) := [(0, (.iload_n 0, 1), (0, 0, 0)), (1, (.bipush 43, 2), (0, 0, 0)), (3, (.if_icmp .eq 33, 3), (0, 0, 0)), (6, (.iload_n 0, 1), (0, 0, 0)), (7, (.bipush 45, 2), (0, 0, 0)), (9, (.if_icmp .eq 27, 3), (0, 0, 0)), (12, (.iload_n 0, 1), (0, 0, 0)), (13, (.bipush 42, 2), (0, 0, 0)), (15, (.if_icmp .eq 21, 3), (0, 0, 0)), (18, (.iload_n 0, 1), (0, 0, 0)), (19, (.bipush 47, 2), (0, 0, 0)), (21, (.if_icmp .eq 15, 3), (0, 0, 0)), (24, (.iload_n 0, 1), (0, 0, 0)), (25, (.bipush 37, 2), (0, 0, 0)), (27, (.if_icmp .eq 9, 3), (0, 0, 0)), (30, (.iload_n 0, 1), (0, 0, 0)), (31, (.bipush 60, 2), (0, 0, 0)), (33, (.if_icmp .ne 7, 3), (0, 0, 0)), (36, (.iconst 1, 1), (0, 0, 0)), (37, (.goto 4, 3), (0, 0, 0)), (40, (.iconst 0, 1), (0, 0, 0)), (41, (.ireturn, 1), (0, 0, 0))]
/-- MixfixBench$Reading.<init> -/
def X_c82 : List (Nat × (Jvm.ClassFile.Instr × Nat) × (Nat × Nat × Nat)) := [(0, (.aload_n 0, 1), (0, 0, 0)), (1, (.invokespecial 3, 3), (9999, 338, 0)), (4, (.aload_n 0, 1), (0, 0, 0)), (5, (.iconst 0, 1), (0, 0, 0)), (6, (.putfield 9, 3), (5, 0, 0)), (9, (.aload_n 0, 1), (0, 0, 0)), (10, (.bipush 30, 2), (0, 0, 0)), (12, (.newarray .int, 2), (0, 0, 0)), (14, (.putfield 15, 3), (5, 1, 2)), (17, (.aload_n 0, 1), (0, 0, 0)), (18, (.bipush 30, 2), (0, 0, 0)), (20, (.newarray .int, 2), (0, 0, 0)), (22, (.putfield 19, 3), (5, 2, 4)), (25, (.aload_n 0, 1), (0, 0, 0)), (26, (.bipush 30, 2), (0, 0, 0)), (28, (.newarray .int, 2), (0, 0, 0)), (30, (.putfield 22, 3), (5, 3, 6)), (33, (.aload_n 0, 1), (0, 0, 0)), (34, (.bipush 30, 2), (0, 0, 0)), (36, (.newarray .int, 2), (0, 0, 0)), (38, (.putfield 25, 3), (5, 4, 8)), (41, (.aload_n 0, 1), (0, 0, 0)), (42, (.bipush 30, 2), (0, 0, 0)), (44, (.newarray .int, 2), (0, 0, 0)), (46, (.putfield 28, 3), (5, 5, 10)), (49, (.aload_n 0, 1), (0, 0, 0)), (50, (.bipush 120, 2), (0, 0, 0)), (52, (.newarray .int, 2), (0, 0, 0)), (54, (.putfield 31, 3), (5, 6, 12)), (57, (.return_, 1), (0, 0, 0))]
/-- MixfixBench$Reading.clear -/
def X_c83 : List (Nat × (Jvm.ClassFile.Instr × Nat) × (Nat × Nat × Nat)) := [(0, (.aload_n 0, 1), (0, 0, 0)), (1, (.iconst 0, 1), (0, 0, 0)), (2, (.putfield 9, 3), (5, 0, 0)), (5, (.return_, 1), (0, 0, 0))]
/-- MixfixBench$Reading.add -/
def X_c84 : List (Nat × (Jvm.ClassFile.Instr × Nat) × (Nat × Nat × Nat)) := [(0, (.aload_n 0, 1), (0, 0, 0)), (1, (.getfield 9, 3), (5, 0, 0)), (4, (.bipush 30, 2), (0, 0, 0)), (6, (.if_icmp .lt 5, 3), (0, 0, 0)), (9, (.iconst (-1), 1), (0, 0, 0)), (10, (.ireturn, 1), (0, 0, 0)), (11, (.aload_n 0, 1), (0, 0, 0)), (12, (.getfield 9, 3), (5, 0, 0)), (15, (.istore 6, 2), (0, 0, 0)), (17, (.aload_n 0, 1), (0, 0, 0)), (18, (.getfield 15, 3), (5, 1, 2)), (21, (.iload 6, 2), (0, 0, 0)), (23, (.iload_n 1, 1), (0, 0, 0)), (24, (.iastore, 1), (0, 0, 0)), (25, (.aload_n 0, 1), (0, 0, 0)), (26, (.getfield 19, 3), (5, 2, 4)), (29, (.iload 6, 2), (0, 0, 0)), (31, (.iload_n 2, 1), (0, 0, 0)), (32, (.iastore, 1), (0, 0, 0)), (33, (.aload_n 0, 1), (0, 0, 0)), (34, (.getfield 22, 3), (5, 3, 6)), (37, (.iload 6, 2), (0, 0, 0)), (39, (.iload_n 3, 1), (0, 0, 0)), (40, (.iastore, 1), (0, 0, 0)), (41, (.aload_n 0, 1), (0, 0, 0)), (42, (.getfield 25, 3), (5, 4, 8)), (45, (.iload 6, 2), (0, 0, 0)), (47, (.iload 4, 2), (0, 0, 0)), (49, (.iastore, 1), (0, 0, 0)), (50, (.aload_n 0, 1), (0, 0, 0)), (51, (.getfield 28, 3), (5, 5, 10)), (54, (.iload 6, 2), (0, 0, 0)), (56, (.iload 5, 2), (0, 0, 0)), (58, (.iastore, 1), (0, 0, 0)), (59, (.iload 4, 2), (0, 0, 0)), (61, (.ifCond .lt 22, 3), (0, 0, 0)), (64, (.iload 5, 2), (0, 0, 0)), (66, (.ifCond .lt 17, 3), (0, 0, 0)), (69, (.aload_n 0, 1), (0, 0, 0)), (70, (.getfield 31, 3), (5, 6, 12)), (73, (.iload 4, 2), (0, 0, 0)), (75, (.iconst 4, 1), (0, 0, 0)), (76, (.imul, 1), (0, 0, 0)), (77, (.iload 5, 2), (0, 0, 0)), (79, (.iadd, 1), (0, 0, 0)), (80, (.iload 6, 2), (0, 0, 0)), (82, (.iastore, 1), (0, 0, 0)), (83, (.aload_n 0, 1), (0, 0, 0)), (84, (.dup, 1), (0, 0, 0)), (85, (.getfield 9, 3), (5, 0, 0)), (88, (.iconst 1, 1), (0, 0, 0)), (89, (.iadd, 1), (0, 0, 0)), (90, (.putfield 9, 3), (5, 0, 0)), (93, (.iload 6, 2), (0, 0, 0)), (95, (.ireturn, 1), (0, 0, 0))]
/-- MixfixBench$Reading.childOf -/
def X_c85 : List (Nat × (Jvm.ClassFile.Instr × Nat) × (Nat × Nat × Nat)) := [(0, (.aload_n 0, 1), (0, 0, 0)), (1, (.getfield 31, 3), (5, 6, 12)), (4, (.iload_n 1, 1), (0, 0, 0)), (5, (.iconst 4, 1), (0, 0, 0)), (6, (.imul, 1), (0, 0, 0)), (7, (.iload_n 2, 1), (0, 0, 0)), (8, (.iadd, 1), (0, 0, 0)), (9, (.iaload, 1), (0, 0, 0)), (10, (.ireturn, 1), (0, 0, 0))]
/-- MixfixBench$Sentence.<init> -/
def X_c86 : List (Nat × (Jvm.ClassFile.Instr × Nat) × (Nat × Nat × Nat)) := [(0, (.aload_n 0, 1), (0, 0, 0)), (1, (.invokespecial 3, 3), (9999, 318, 0)), (4, (.aload_n 0, 1), (0, 0, 0)), (5, (.iconst 0, 1), (0, 0, 0)), (6, (.putfield 9, 3), (6, 0, 2)), (9, (.aload_n 0, 1), (0, 0, 0)), (10, (.bipush 30, 2), (0, 0, 0)), (12, (.newarray .long, 2), (0, 0, 0)), (14, (.putfield 15, 3), (6, 1, 4)), (17, (.aload_n 0, 1), (0, 0, 0)), (18, (.bipush 30, 2), (0, 0, 0)), (20, (.newarray .long, 2), (0, 0, 0)), (22, (.putfield 19, 3), (6, 2, 6)), (25, (.return_, 1), (0, 0, 0))]
/-- MixfixBench$Sentence.readFrom -/
def X_c87 : List (Nat × (Jvm.ClassFile.Instr × Nat) × (Nat × Nat × Nat)) := [(0, (.iconst 0, 1), (0, 0, 0)), (1, (.istore_n 2, 1), (0, 0, 0)), (2, (.iconst 0, 1), (0, 0, 0)), (3, (.istore_n 3, 1), (0, 0, 0)), (4, (.iconst 0, 1), (0, 0, 0)), (5, (.istore 4, 2), (0, 0, 0)), (7, (.iload 4, 2), (0, 0, 0)), (9, (.aload_n 1, 1), (0, 0, 0)), (10, (.getfield 22, 3), (7, 1, 1)), (13, (.if_icmp .ge 144, 3), (0, 0, 0)), (16, (.aload_n 1, 1), (0, 0, 0)), (17, (.iload 4, 2), (0, 0, 0)), (19, (.invokevirtual 27, 3), (93, 0, 0)), (22, (.istore 5, 2), (0, 0, 0)), (24, (.iload 5, 2), (0, 0, 0)), (26, (.bipush 40, 2), (0, 0, 0)), (28, (.if_icmp .eq 10, 3), (0, 0, 0)), (31, (.iload 5, 2), (0, 0, 0)), (33, (.bipush 41, 2), (0, 0, 0)), (35, (.if_icmp .ne 7, 3), (0, 0, 0)), (38, (.iconst 1, 1), (0, 0, 0)), (39, (.goto 4, 3), (0, 0, 0)), (42, (.iconst 0, 1), (0, 0, 0)), (43, (.istore 6, 2), (0, 0, 0)), (45, (.iload 5, 2), (0, 0, 0)), (47, (.invokestatic 31, 3), (133, 3, 0)), (50, (.ifCond .eq 8, 3), (0, 0, 0)), (53, (.iconst 0, 1), (0, 0, 0)), (54, (.istore_n 3, 1), (0, 0, 0)), (55, (.goto 96, 3), (0, 0, 0)), (58, (.iload 5, 2), (0, 0, 0)), (60, (.bipush 33, 2), (0, 0, 0)), (62, (.if_icmp .lt 10, 3), (0, 0, 0)), (65, (.iload 5, 2), (0, 0, 0)), (67, (.bipush 126, 2), (0, 0, 0)), (69, (.if_icmp .le 5, 3), (0, 0, 0)), (72, (.iconst 0, 1), (0, 0, 0)), (73, (.ireturn, 1), (0, 0, 0)), (74, (.iload_n 3, 1), (0, 0, 0)), (75, (.ifCond .le 45, 3), (0, 0, 0)), (78, (.iload 6, 2), (0, 0, 0)), (80, (.ifCond .ne 40, 3), (0, 0, 0)), (83, (.iload_n 3, 1), (0, 0, 0)), (84, (.bipush 8, 2), (0, 0, 0)), (86, (.if_icmp .ne 5, 3), (0, 0, 0)), (89, (.iconst 0, 1), (0, 0, 0)), (90, (.ireturn, 1), (0, 0, 0)), (91, (.aload_n 0, 1), (0, 0, 0)), (92, (.getfield 19, 3), (6, 2, 6)), (95, (.iload_n 2, 1), (0, 0, 0)), (96, (.iconst 1, 1), (0, 0, 0)), (97, (.isub, 1), (0, 0, 0)), (98, (.aload_n 0, 1), (0, 0, 0)), (99, (.getfield 19, 3), (6, 2, 6)), (102, (.iload_n 2, 1), (0, 0, 0)), (103, (.iconst 1, 1), (0, 0, 0)), (104, (.isub, 1), (0, 0, 0)), (105, (.laload, 1), (0, 0, 0)), (106, (.bipush 8, 2), (0, 0, 0)), (108, (.lshl, 1), (0, 0, 0)), (109, (.iload 5, 2), (0, 0, 0)), (111, (.i2l, 1), (0, 0, 0)), (112, (.lor, 1), (0, 0, 0)), (113, (.lastore, 1), (0, 0, 0)), (114, (.iinc 3 1, 3), (0, 0, 0)), (117, (.goto 34, 3), (0, 0, 0)), (120, (.iload_n 2, 1), (0, 0, 0)), (121, (.bipush 30, 2), (0, 0, 0)), (123, (.if_icmp .ne 5, 3), (0, 0, 0)), (126, (.iconst 0, 1), (0, 0, 0)), (127, (.ireturn, 1), (0, 0, 0)), (128, (.aload_n 0, 1), (0, 0, 0)), (129, (.getfield 19, 3), (6, 2, 6)), (132, (.iload_n 2, 1), (0, 0, 0)), (133, (.iload 5, 2), (0, 0, 0)), (135, (.i2l, 1), (0, 0, 0)), (136, (.lastore, 1), (0, 0, 0)), (137, (.iinc 2 1, 3), (0, 0, 0)), (140, (.iload 6, 2), (0, 0, 0)), (142, (.ifCond .eq 7, 3), (0, 0, 0)), (145, (.iconst 0, 1), (0, 0, 0)), (146, (.goto 4, 3), (0, 0, 0)), (149, (.iconst 1, 1), (0, 0, 0)), (150, (.istore_n 3, 1), (0, 0, 0)), (151, (.iinc 4 1, 3), (0, 0, 0)), (154, (.goto (-147), 3), (0, 0, 0)), (157, (.aload_n 0, 1), (0, 0, 0)), (158, (.getfield 19, 3), (6, 2, 6)), (161, (.iconst 0, 1), (0, 0, 0)), (162, (.aload_n 0, 1), (0, 0, 0)), (163, (.getfield 15, 3), (6, 1, 4)), (166, (.iconst 0, 1), (0, 0, 0)), (167, (.iload_n 2, 1), (0, 0, 0)), (168, (.invokestatic 35, 3), (9998, 826, 0)), (171, (.aload_n 0, 1), (0, 0, 0)), (172, (.iload_n 2, 1), (0, 0, 0)), (173, (.putfield 9, 3), (6, 0, 2)), (176, (.iconst 1, 1), (0, 0, 0)), (177, (.ireturn, 1), (0, 0, 0))]
/-- MixfixBench$Sentence.isNumber -/
def X_c88 : List (Nat × (Jvm.ClassFile.Instr × Nat) × (Nat × Nat × Nat)) := [(0, (.aload_n 0, 1), (0, 0, 0)), (1, (.iload_n 1, 1), (0, 0, 0)), (2, (.invokevirtual 41, 3), (89, 4, 0)), (5, (.iconst (-1), 1), (0, 0, 0)), (6, (.if_icmp .eq 7, 3), (0, 0, 0)), (9, (.iconst 1, 1), (0, 0, 0)), (10, (.goto 4, 3), (0, 0, 0)), (13, (.iconst 0, 1), (0, 0, 0)), (14, (.ireturn, 1), (0, 0, 0))]
/-- MixfixBench$Sentence.numberAt -/
def X_c89 : List (Nat × (Jvm.ClassFile.Instr × Nat) × (Nat × Nat × Nat)) := [(0, (.iconst 0, 1), (0, 0, 0)), (1, (.istore_n 2, 1), (0, 0, 0)), (2, (.bipush 56, 2), (0, 0, 0)), (4, (.istore_n 3, 1), (0, 0, 0)), (5, (.iload_n 3, 1), (0, 0, 0)), (6, (.ifCond .lt 56, 3), (0, 0, 0)), (9, (.aload_n 0, 1), (0, 0, 0)), (10, (.getfield 15, 3), (6, 1, 4)), (13, (.iload_n 1, 1), (0, 0, 0)), (14, (.laload, 1), (0, 0, 0)), (15, (.iload_n 3, 1), (0, 0, 0)), (16, (.lshr, 1), (0, 0, 0)), (17, (.ldc2_w 44, 3), (255, 880, 0)), (20, (.land, 1), (0, 0, 0)), (21, (.l2i, 1), (0, 0, 0)), (22, (.istore 4, 2), (0, 0, 0)), (24, (.iload 4, 2), (0, 0, 0)), (26, (.ifCond .eq 30, 3), (0, 0, 0)), (29, (.iload 4, 2), (0, 0, 0)), (31, (.bipush 48, 2), (0, 0, 0)), (33, (.if_icmp .lt 10, 3), (0, 0, 0)), (36, (.iload 4, 2), (0, 0, 0)), (38, (.bipush 57, 2), (0, 0, 0)), (40, (.if_icmp .le 5, 3), (0, 0, 0)), (43, (.iconst (-1), 1), (0, 0, 0)), (44, (.ireturn, 1), (0, 0, 0)), (45, (.iload_n 2, 1), (0, 0, 0)), (46, (.bipush 10, 2), (0, 0, 0)), (48, (.imul, 1), (0, 0, 0)), (49, (.iload 4, 2), (0, 0, 0)), (51, (.iadd, 1), (0, 0, 0)), (52, (.bipush 48, 2), (0, 0, 0)), (54, (.isub, 1), (0, 0, 0)), (55, (.istore_n 2, 1), (0, 0, 0)), (56, (.iinc 3 (-8), 3), (0, 0, 0)), (59, (.goto (-54), 3), (0, 0, 0)), (62, (.iload_n 2, 1), (0, 0, 0)), (63, (.ireturn, 1), (0, 0, 0))]
/-- MixfixBench$Sentence.isBracketed -/
def X_c90 : List (Nat × (Jvm.ClassFile.Instr × Nat) × (Nat × Nat × Nat)) := [(0, (.iload_n 2, 1), (0, 0, 0)), (1, (.iload_n 1, 1), (0, 0, 0)), (2, (.isub, 1), (0, 0, 0)), (3, (.iconst 3, 1), (0, 0, 0)), (4, (.if_icmp .lt 35, 3), (0, 0, 0)), (7, (.aload_n 0, 1), (0, 0, 0)), (8, (.getfield 15, 3), (6, 1, 4)), (11, (.iload_n 1, 1), (0, 0, 0)), (12, (.laload, 1), (0, 0, 0)), (13, (.ldc2_w 46, 3), (40, 889, 0)), (16, (.lcmp, 1), (0, 0, 0)), (17, (.ifCond .ne 22, 3), (0, 0, 0)), (20, (.aload_n 0, 1), (0, 0, 0)), (21, (.getfield 15, 3), (6, 1, 4)), (24, (.iload_n 2, 1), (0, 0, 0)), (25, (.iconst 1, 1), (0, 0, 0)), (26, (.isub, 1), (0, 0, 0)), (27, (.laload, 1), (0, 0, 0)), (28, (.ldc2_w 48, 3), (41, 890, 0)), (31, (.lcmp, 1), (0, 0, 0)), (32, (.ifCond .ne 7, 3), (0, 0, 0)), (35, (.iconst 1, 1), (0, 0, 0)), (36, (.goto 4, 3), (0, 0, 0)), (39, (.iconst 0, 1), (0, 0, 0)), (40, (.ireturn, 1), (0, 0, 0))]
/-- MixfixBench$Tape.<init> -/
def X_c91 : List (Nat × (Jvm.ClassFile.Instr × Nat) × (Nat × Nat × Nat)) := [(0, (.aload_n 0, 1), (0, 0, 0)), (1, (.invokespecial 3, 3), (9999, 109, 0)), (4, (.aload_n 0, 1), (0, 0, 0)), (5, (.sipush 2000, 3), (0, 0, 0)), (8, (.newarray .byte, 2), (0, 0, 0)), (10, (.putfield 9, 3), (7, 0, 0)), (13, (.aload_n 0, 1), (0, 0, 0)), (14, (.iconst 0, 1), (0, 0, 0)), (15, (.putfield 15, 3), (7, 1, 2)), (18, (.return_, 1), (0, 0, 0))]
/-- MixfixBench$Tape.append -/
def X_c92 : List (Nat × (Jvm.ClassFile.Instr × Nat) × (Nat × Nat × Nat)) := [(0, (.bipush 24, 2), (0, 0, 0)), (2, (.istore_n 2, 1), (0, 0, 0)), (3, (.iload_n 2, 1), (0, 0, 0)), (4, (.ifCond .lt 42, 3), (0, 0, 0)), (7, (.aload_n 0, 1), (0, 0, 0)), (8, (.getfield 15, 3), (7, 1, 2)), (11, (.sipush 2000, 3), (0, 0, 0)), (14, (.if_icmp .ge 32, 3), (0, 0, 0)), (17, (.aload_n 0, 1), (0, 0, 0)), (18, (.getfield 9, 3), (7, 0, 0)), (21, (.aload_n 0, 1), (0, 0, 0)), (22, (.getfield 15, 3), (7, 1, 2)), (25, (.iload_n 1, 1), (0, 0, 0)), (26, (.iload_n 2, 1), (0, 0, 0)), (27, (.ishr, 1), (0, 0, 0)), (28, (.i2b, 1), (0, 0, 0)), (29, (.bastore, 1), (0, 0, 0)), (30, (.aload_n 0, 1), (0, 0, 0)), (31, (.dup, 1), (0, 0, 0)), (32, (.getfield 15, 3), (7, 1, 2)), (35, (.iconst 1, 1), (0, 0, 0)), (36, (.iadd, 1), (0, 0, 0)), (37, (.putfield 15, 3), (7, 1, 2)), (40, (.iinc 2 (-8), 3), (0, 0, 0)), (43, (.goto (-40), 3), (0, 0, 0)), (46, (.return_, 1), (0, 0, 0))]
/-- MixfixBench$Tape.byteAt -/
def X_c93 : List (Nat × (Jvm.ClassFile.Instr × Nat) × (Nat × Nat × Nat)) := [(0, (.iload_n 1, 1), (0, 0, 0)), (1, (.ifCond .lt 24, 3), (0, 0, 0)), (4, (.iload_n 1, 1), (0, 0, 0)), (5, (.aload_n 0, 1), (0, 0, 0)), (6, (.getfield 15, 3), (7, 1, 2)), (9, (.if_icmp .ge 16, 3), (0, 0, 0)), (12, (.aload_n 0, 1), (0, 0, 0)), (13, (.getfield 9, 3), (7, 0, 0)), (16, (.iload_n 1, 1), (0, 0, 0)), (17, (.baload, 1), (0, 0, 0)), (18, (.sipush 255, 3), (0, 0, 0)), (21, (.iand, 1), (0, 0, 0)), (22, (.goto 4, 3), (0, 0, 0)), (25, (.iconst (-1), 1), (0, 0, 0)), (26, (.ireturn, 1), (0, 0, 0))]
/-- MixfixBench$Word.<init> -/
def X_c94 : List (Nat × (Jvm.ClassFile.Instr × Nat) × (Nat × Nat × Nat)) := [(0, (.aload_n 0, 1), (0, 0, 0)), (1, (.invokespecial 3, 3), (9999, 133, 0)), (4, (.aload_n 0, 1), (0, 0, 0)), (5, (.bipush 8, 2), (0, 0, 0)), (7, (.newarray .long, 2), (0, 0, 0)), (9, (.putfield 9, 3), (8, 8, 16)), (12, (.aload_n 0, 1), (0, 0, 0)), (13, (.bipush 8, 2), (0, 0, 0)), (15, (.newarray .int, 2), (0, 0, 0)), (17, (.putfield 15, 3), (8, 9, 18)), (20, (.aload_n 0, 1), (0, 0, 0)), (21, (.iconst 4, 1), (0, 0, 0)), (22, (.newarray .int, 2), (0, 0, 0)), (24, (.putfield 19, 3), (8, 10, 20)), (27, (.aload_n 0, 1), (0, 0, 0)), (28, (.iconst 4, 1), (0, 0, 0)), (29, (.newarray .int, 2), (0, 0, 0)), (31, (.putfield 22, 3), (8, 11, 22)), (34, (.aload_n 0, 1), (0, 0, 0)), (35, (.iconst 4, 1), (0, 0, 0)), (36, (.newarray .int, 2), (0, 0, 0)), (38, (.putfield 25, 3), (8, 12, 24)), (41, (.aload_n 0, 1), (0, 0, 0)), (42, (.bipush 30, 2), (0, 0, 0)), (44, (.newarray .int, 2), (0, 0, 0)), (46, (.putfield 28, 3), (8, 13, 26)), (49, (.aload_n 0, 1), (0, 0, 0)), (50, (.bipush 30, 2), (0, 0, 0)), (52, (.newarray .int, 2), (0, 0, 0)), (54, (.putfield 31, 3), (8, 14, 28)), (57, (.return_, 1), (0, 0, 0))]
/-- MixfixBench$Word.clear -/
def X_c95 : List (Nat × (Jvm.ClassFile.Instr × Nat) × (Nat × Nat × Nat)) := [(0, (.aload_n 0, 1), (0, 0, 0)), (1, (.iload_n 1, 1), (0, 0, 0)), (2, (.putfield 34, 3), (8, 0, 0)), (5, (.aload_n 0, 1), (0, 0, 0)), (6, (.iconst 0, 1), (0, 0, 0)), (7, (.putfield 38, 3), (8, 1, 2)), (10, (.aload_n 0, 1), (0, 0, 0)), (11, (.iconst 0, 1), (0, 0, 0)), (12, (.putfield 41, 3), (8, 2, 4)), (15, (.aload_n 0, 1), (0, 0, 0)), (16, (.iconst 0, 1), (0, 0, 0)), (17, (.putfield 44, 3), (8, 3, 6)), (20, (.aload_n 0, 1), (0, 0, 0)), (21, (.iconst 0, 1), (0, 0, 0)), (22, (.putfield 47, 3), (8, 4, 8)), (25, (.aload_n 0, 1), (0, 0, 0)), (26, (.iconst (-1), 1), (0, 0, 0)), (27, (.putfield 50, 3), (8, 5, 10)), (30, (.aload_n 0, 1), (0, 0, 0)), (31, (.iconst 0, 1), (0, 0, 0)), (32, (.putfield 53, 3), (8, 6, 12)), (35, (.aload_n 0, 1), (0, 0, 0)), (36, (.iconst 0, 1), (0, 0, 0)), (37, (.putfield 57, 3), (8, 7, 14)), (40, (.return_, 1), (0, 0, 0))]
/-- MixfixBench$Word.addPart -/
def X_c96 : List (Nat × (Jvm.ClassFile.Instr × Nat) × (Nat × Nat × Nat)) := [(0, (.aload_n 0, 1), (0, 0, 0)), (1, (.getfield 44, 3), (8, 3, 6)), (4, (.bipush 8, 2), (0, 0, 0)), (6, (.if_icmp .ge 23, 3), (0, 0, 0)), (9, (.aload_n 0, 1), (0, 0, 0)), (10, (.getfield 9, 3), (8, 8, 16)), (13, (.aload_n 0, 1), (0, 0, 0)), (14, (.getfield 44, 3), (8, 3, 6)), (17, (.lload_n 1, 1), (0, 0, 0)), (18, (.lastore, 1), (0, 0, 0)), (19, (.aload_n 0, 1), (0, 0, 0)), (20, (.dup, 1), (0, 0, 0)), (21, (.getfield 44, 3), (8, 3, 6)), (24, (.iconst 1, 1), (0, 0, 0)), (25, (.iadd, 1), (0, 0, 0)), (26, (.putfield 44, 3), (8, 3, 6)), (29, (.return_, 1), (0, 0, 0))]
/-- MixfixBench$Word.mayTakeHole -/
def X_c97 : List (Nat × (Jvm.ClassFile.Instr × Nat) × (Nat × Nat × Nat)) := [(0, (.aload_n 0, 1), (0, 0, 0)), (1, (.getfield 44, 3), (8, 3, 6)), (4, (.bipush 8, 2), (0, 0, 0)), (6, (.if_icmp .ge 28, 3), (0, 0, 0)), (9, (.aload_n 0, 1), (0, 0, 0)), (10, (.getfield 47, 3), (8, 4, 8)), (13, (.iconst 4, 1), (0, 0, 0)), (14, (.if_icmp .ge 20, 3), (0, 0, 0)), (17, (.aload_n 0, 1), (0, 0, 0)), (18, (.aload_n 0, 1), (0, 0, 0)), (19, (.getfield 44, 3), (8, 3, 6)), (22, (.iconst 1, 1), (0, 0, 0)), (23, (.isub, 1), (0, 0, 0)), (24, (.invokevirtual 60, 3), (100, 0, 0)), (27, (.ifCond .ne 7, 3), (0, 0, 0)), (30, (.iconst 1, 1), (0, 0, 0)), (31, (.goto 4, 3), (0, 0, 0)), (34, (.iconst 0, 1), (0, 0, 0)), (35, (.ireturn, 1), (0, 0, 0))]
/-- MixfixBench$Word.addHole -/
def X_c98 : List (Nat × (Jvm.ClassFile.Instr × Nat) × (Nat × Nat × Nat)) := [(0, (.aload_n 0, 1), (0, 0, 0)), (1, (.getfield 44, 3), (8, 3, 6)), (4, (.bipush 8, 2), (0, 0, 0)), (6, (.if_icmp .ge 64, 3), (0, 0, 0)), (9, (.aload_n 0, 1), (0, 0, 0)), (10, (.getfield 47, 3), (8, 4, 8)), (13, (.iconst 4, 1), (0, 0, 0)), (14, (.if_icmp .ge 56, 3), (0, 0, 0)), (17, (.aload_n 0, 1), (0, 0, 0)), (18, (.getfield 9, 3), (8, 8, 16)), (21, (.aload_n 0, 1), (0, 0, 0)), (22, (.getfield 44, 3), (8, 3, 6)), (25, (.lconst 0, 1), (0, 0, 0)), (26, (.lastore, 1), (0, 0, 0)), (27, (.aload_n 0, 1), (0, 0, 0)), (28, (.getfield 15, 3), (8, 9, 18)), (31, (.aload_n 0, 1), (0, 0, 0)), (32, (.getfield 44, 3), (8, 3, 6)), (35, (.aload_n 0, 1), (0, 0, 0)), (36, (.getfield 47, 3), (8, 4, 8)), (39, (.iastore, 1), (0, 0, 0)), (40, (.aload_n 0, 1), (0, 0, 0)), (41, (.getfield 19, 3), (8, 10, 20)), (44, (.aload_n 0, 1), (0, 0, 0)), (45, (.getfield 47, 3), (8, 4, 8)), (48, (.iload_n 1, 1), (0, 0, 0)), (49, (.iastore, 1), (0, 0, 0)), (50, (.aload_n 0, 1), (0, 0, 0)), (51, (.dup, 1), (0, 0, 0)), (52, (.getfield 44, 3), (8, 3, 6)), (55, (.iconst 1, 1), (0, 0, 0)), (56, (.iadd, 1), (0, 0, 0)), (57, (.putfield 44, 3), (8, 3, 6)), (60, (.aload_n 0, 1), (0, 0, 0)), (61, (.dup, 1), (0, 0, 0)), (62, (.getfield 47, 3), (8, 4, 8)), (65, (.iconst 1, 1), (0, 0, 0)), (66, (.iadd, 1), (0, 0, 0)), (67, (.putfield 47, 3), (8, 4, 8)), (70, (.return_, 1), (0, 0, 0))]
/-- MixfixBench$Word.addStep -/
def X_c99 : List (Nat × (Jvm.ClassFile.Instr × Nat) × (Nat × Nat × Nat)) := [(0, (.aload_n 0, 1), (0, 0, 0)), (1, (.getfield 50, 3), (8, 5, 10)), (4, (.ifCond .lt 42, 3), (0, 0, 0)), (7, (.aload_n 0, 1), (0, 0, 0)), (8, (.getfield 50, 3), (8, 5, 10)), (11, (.bipush 30, 2), (0, 0, 0)), (13, (.if_icmp .ge 33, 3), (0, 0, 0)), (16, (.aload_n 0, 1), (0, 0, 0)), (17, (.getfield 28, 3), (8, 13, 26)), (20, (.aload_n 0, 1), (0, 0, 0)), (21, (.getfield 50, 3), (8, 5, 10)), (24, (.iload_n 1, 1), (0, 0, 0)), (25, (.iastore, 1), (0, 0, 0)), (26, (.aload_n 0, 1), (0, 0, 0)), (27, (.getfield 31, 3), (8, 14, 28)), (30, (.aload_n 0, 1), (0, 0, 0)), (31, (.getfield 50, 3), (8, 5, 10)), (34, (.iload_n 2, 1), (0, 0, 0)), (35, (.iastore, 1), (0, 0, 0)), (36, (.aload_n 0, 1), (0, 0, 0)), (37, (.dup, 1), (0, 0, 0)), (38, (.getfield 50, 3), (8, 5, 10)), (41, (.iconst 1, 1), (0, 0, 0)), (42, (.iadd, 1), (0, 0, 0)), (43, (.putfield 50, 3), (8, 5, 10)), (46, (.return_, 1), (0, 0, 0))]
/-- MixfixBench$Word.isHole -/
def X_c100 : List (Nat × (Jvm.ClassFile.Instr × Nat) × (Nat × Nat × Nat)) := [(0, (.iload_n 1, 1), (0, 0, 0)), (1, (.ifCond .lt 26, 3), (0, 0, 0)), (4, (.iload_n 1, 1), (0, 0, 0)), (5, (.aload_n 0, 1), (0, 0, 0)), (6, (.getfield 44, 3), (8, 3, 6)), (9, (.if_icmp .ge 18, 3), (0, 0, 0)), (12, (.aload_n 0, 1), (0, 0, 0)), (13, (.getfield 9, 3), (8, 8, 16)), (16, (.iload_n 1, 1), (0, 0, 0)), (17, (.laload, 1), (0, 0, 0)), (18, (.lconst 0, 1), (0, 0, 0)), (19, (.lcmp, 1), (0, 0, 0)), (20, (.ifCond .ne 7, 3), (0, 0, 0)), (23, (.iconst 1, 1), (0, 0, 0)), (24, (.goto 4, 3), (0, 0, 0)), (27, (.iconst 0, 1), (0, 0, 0)), (28, (.ireturn, 1), (0, 0, 0))]
/-- MixfixBench$Word.ends -/
def X_c101 : List (Nat × (Jvm.ClassFile.Instr × Nat) × (Nat × Nat × Nat)) := [(0, (.aload_n 0, 1), (0, 0, 0)), (1, (.iconst 0, 1), (0, 0, 0)), (2, (.invokevirtual 60, 3), (100, 0, 0)), (5, (.ifCond .eq 7, 3), (0, 0, 0)), (8, (.iconst 1, 1), (0, 0, 0)), (9, (.goto 4, 3), (0, 0, 0)), (12, (.iconst 0, 1), (0, 0, 0)), (13, (.aload_n 0, 1), (0, 0, 0)), (14, (.aload_n 0, 1), (0, 0, 0)), (15, (.getfield 44, 3), (8, 3, 6)), (18, (.iconst 1, 1), (0, 0, 0)), (19, (.isub, 1), (0, 0, 0)), (20, (.invokevirtual 60, 3), (100, 0, 0)), (23, (.ifCond .eq 7, 3), (0, 0, 0)), (26, (.iconst 2, 1), (0, 0, 0)), (27, (.goto 4, 3), (0, 0, 0)), (30, (.iconst 0, 1), (0, 0, 0)), (31, (.iadd, 1), (0, 0, 0)), (32, (.ireturn, 1), (0, 0, 0))]
/-- MixfixBench$Word.isClosed -/
def X_c102 : List (Nat × (Jvm.ClassFile.Instr × Nat) × (Nat × Nat × Nat)) := [(0, (.aload_n 0, 1), (0, 0, 0)), (1, (.invokevirtual 64, 3), (101, 2, 0)), (4, (.ifCond .ne 7, 3), (0, 0, 0)), (7, (.iconst 1, 1), (0, 0, 0)), (8, (.goto 4, 3), (0, 0, 0)), (11, (.iconst 0, 1), (0, 0, 0)), (12, (.ireturn, 1), (0, 0, 0))]
/-- MixfixBench$Word.hasPart -/
def X_c103 : List (Nat × (Jvm.ClassFile.Instr × Nat) × (Nat × Nat × Nat)) := [(0, (.iconst 0, 1), (0, 0, 0)), (1, (.istore_n 3, 1), (0, 0, 0)), (2, (.iload_n 3, 1), (0, 0, 0)), (3, (.aload_n 0, 1), (0, 0, 0)), (4, (.getfield 44, 3), (8, 3, 6)), (7, (.if_icmp .ge 22, 3), (0, 0, 0)), (10, (.aload_n 0, 1), (0, 0, 0)), (11, (.getfield 9, 3), (8, 8, 16)), (14, (.iload_n 3, 1), (0, 0, 0)), (15, (.laload, 1), (0, 0, 0)), (16, (.lload_n 1, 1), (0, 0, 0)), (17, (.lcmp, 1), (0, 0, 0)), (18, (.ifCond .ne 5, 3), (0, 0, 0)), (21, (.iconst 1, 1), (0, 0, 0)), (22, (.ireturn, 1), (0, 0, 0)), (23, (.iinc 3 1, 3), (0, 0, 0)), (26, (.goto (-24), 3), (0, 0, 0)), (29, (.iconst 0, 1), (0, 0, 0)), (30, (.ireturn, 1), (0, 0, 0))]
/-- MixfixBench$Worker.<init> -/
def X_c104 : List (Nat × (Jvm.ClassFile.Instr × Nat) × (Nat × Nat × Nat)) := [(0, (.aload_n 0, 1), (0, 0, 0)), (1, (.invokespecial 3, 3), (9999, 455, 0)), (4, (.aload_n 0, 1), (0, 0, 0)), (5, (.iconst 0, 1), (0, 0, 0)), (6, (.putfield 9, 3), (9, 2, 24)), (9, (.aload_n 0, 1), (0, 0, 0)), (10, (.iconst (-1), 1), (0, 0, 0)), (11, (.putfield 15, 3), (9, 3, 26)), (14, (.aload_n 0, 1), (0, 0, 0)), (15, (.bipush 30, 2), (0, 0, 0)), (17, (.newarray .int, 2), (0, 0, 0)), (19, (.putfield 18, 3), (9, 4, 28)), (22, (.aload_n 0, 1), (0, 0, 0)), (23, (.bipush 16, 2), (0, 0, 0)), (25, (.newarray .int, 2), (0, 0, 0)), (27, (.putfield 22, 3), (9, 5, 30)), (30, (.aload_n 0, 1), (0, 0, 0)), (31, (.iconst 0, 1), (0, 0, 0)), (32, (.putfield 25, 3), (9, 6, 32)), (35, (.aload_n 0, 1), (0, 0, 0)), (36, (.aload_n 1, 1), (0, 0, 0)), (37, (.putfield 28, 3), (9, 0, 20)), (40, (.aload_n 0, 1), (0, 0, 0)), (41, (.aload_n 2, 1), (0, 0, 0)), (42, (.putfield 32, 3), (9, 1, 22)), (45, (.return_, 1), (0, 0, 0))]
/-- MixfixBench$Worker.forget -/
def X_c105 : List (Nat × (Jvm.ClassFile.Instr × Nat) × (Nat × Nat × Nat)) := [(0, (.aload_n 0, 1), (0, 0, 0)), (1, (.iconst 0, 1), (0, 0, 0)), (2, (.putfield 9, 3), (9, 2, 24)), (5, (.aload_n 0, 1), (0, 0, 0)), (6, (.iconst (-1), 1), (0, 0, 0)), (7, (.putfield 15, 3), (9, 3, 26)), (10, (.return_, 1), (0, 0, 0))]
/-- MixfixBench$Worker.run -/
def X_c106 : List (Nat × (Jvm.ClassFile.Instr × Nat) × (Nat × Nat × Nat)) := [(0, (.aload_n 0, 1), (0, 0, 0)), (1, (.invokevirtual 36, 3), (105, 0, 0)), (4, (.iconst 1, 1), (0, 0, 0)), (5, (.istore_n 2, 1), (0, 0, 0)), (6, (.iload_n 2, 1), (0, 0, 0)), (7, (.aload_n 0, 1), (0, 0, 0)), (8, (.getfield 32, 3), (9, 1, 22)), (11, (.getfield 39, 3), (5, 0, 13)), (14, (.if_icmp .gt 96, 3), (0, 0, 0)), (17, (.iload_n 2, 1), (0, 0, 0)), (18, (.aload_n 0, 1), (0, 0, 0)), (19, (.getfield 32, 3), (9, 1, 22)), (22, (.getfield 39, 3), (5, 0, 13)), (25, (.if_icmp .ge 15, 3), (0, 0, 0)), (28, (.aload_n 0, 1), (0, 0, 0)), (29, (.getfield 32, 3), (9, 1, 22)), (32, (.getfield 44, 3), (5, 4, 19)), (35, (.iload_n 2, 1), (0, 0, 0)), (36, (.iaload, 1), (0, 0, 0)), (37, (.goto 4, 3), (0, 0, 0)), (40, (.iconst (-1), 1), (0, 0, 0)), (41, (.istore_n 3, 1), (0, 0, 0)), (42, (.iload_n 2, 1), (0, 0, 0)), (43, (.iconst 1, 1), (0, 0, 0)), (44, (.isub, 1), (0, 0, 0)), (45, (.istore 4, 2), (0, 0, 0)), (47, (.iconst 0, 1), (0, 0, 0)), (48, (.istore 5, 2), (0, 0, 0)), (50, (.iload 5, 2), (0, 0, 0)), (52, (.bipush 30, 2), (0, 0, 0)), (54, (.if_icmp .ge 50, 3), (0, 0, 0)), (57, (.iload 4, 2), (0, 0, 0)), (59, (.iload_n 3, 1), (0, 0, 0)), (60, (.if_icmp .le 44, 3), (0, 0, 0)), (63, (.aload_n 0, 1), (0, 0, 0)), (64, (.aload_n 1, 1), (0, 0, 0)), (65, (.iload 4, 2), (0, 0, 0)), (67, (.invokevirtual 47, 3), (107, 2, 0)), (70, (.istore 6, 2), (0, 0, 0)), (72, (.iload 6, 2), (0, 0, 0)), (74, (.ifCond .eq 12, 3), (0, 0, 0)), (77, (.aload_n 0, 1), (0, 0, 0)), (78, (.iload 4, 2), (0, 0, 0)), (80, (.putfield 15, 3), (9, 3, 26)), (83, (.iload 6, 2), (0, 0, 0)), (85, (.ireturn, 1), (0, 0, 0)), (86, (.aload_n 0, 1), (0, 0, 0)), (87, (.getfield 32, 3), (9, 1, 22)), (90, (.getfield 44, 3), (5, 4, 19)), (93, (.iload 4, 2), (0, 0, 0)), (95, (.iaload, 1), (0, 0, 0)), (96, (.istore 4, 2), (0, 0, 0)), (98, (.iinc 5 1, 3), (0, 0, 0)), (101, (.goto (-51), 3), (0, 0, 0)), (104, (.iinc 2 1, 3), (0, 0, 0)), (107, (.goto (-101), 3), (0, 0, 0)), (110, (.aload_n 0, 1), (0, 0, 0)), (111, (.aload_n 0, 1), (0, 0, 0)), (112, (.getfield 18, 3), (9, 4, 28)), (115, (.iconst 0, 1), (0, 0, 0)), (116, (.iaload, 1), (0, 0, 0)), (117, (.putfield 9, 3), (9, 2, 24)), (120, (.iconst 0, 1), (0, 0, 0)), (121, (.ireturn, 1), (0, 0, 0))]
/-- MixfixBench$Worker.workNode -/
def X_c107 : List (Nat × (Jvm.ClassFile.Instr × Nat) × (Nat × Nat × Nat)) := [(0, (.aload_n 0, 1), (0, 0, 0)), (1, (.getfield 32, 3), (9, 1, 22)), (4, (.getfield 51, 3), (5, 1, 15)), (7, (.iload_n 2, 1), (0, 0, 0)), (8, (.iaload, 1), (0, 0, 0)), (9, (.istore_n 3, 1), (0, 0, 0)), (10, (.iload_n 3, 1), (0, 0, 0)), (11, (.bipush (-2), 2), (0, 0, 0)), (13, (.if_icmp .ne 27, 3), (0, 0, 0)), (16, (.aload_n 0, 1), (0, 0, 0)), (17, (.getfield 18, 3), (9, 4, 28)), (20, (.iload_n 2, 1), (0, 0, 0)), (21, (.aload_n 0, 1), (0, 0, 0)), (22, (.getfield 28, 3), (9, 0, 20)), (25, (.aload_n 0, 1), (0, 0, 0)), (26, (.getfield 32, 3), (9, 1, 22)), (29, (.getfield 54, 3), (5, 2, 17)), (32, (.iload_n 2, 1), (0, 0, 0)), (33, (.iaload, 1), (0, 0, 0)), (34, (.invokevirtual 57, 3), (89, 4, 0)), (37, (.iastore, 1), (0, 0, 0)), (38, (.iconst 0, 1), (0, 0, 0)), (39, (.ireturn, 1), (0, 0, 0)), (40, (.iload_n 3, 1), (0, 0, 0)), (41, (.bipush (-3), 2), (0, 0, 0)), (43, (.if_icmp .ne 25, 3), (0, 0, 0)), (46, (.aload_n 0, 1), (0, 0, 0)), (47, (.getfield 18, 3), (9, 4, 28)), (50, (.iload_n 2, 1), (0, 0, 0)), (51, (.aload_n 0, 1), (0, 0, 0)), (52, (.getfield 18, 3), (9, 4, 28)), (55, (.aload_n 0, 1), (0, 0, 0)), (56, (.getfield 32, 3), (9, 1, 22)), (59, (.iload_n 2, 1), (0, 0, 0)), (60, (.iconst 0, 1), (0, 0, 0)), (61, (.invokevirtual 63, 3), (85, 6, 0)), (64, (.iaload, 1), (0, 0, 0)), (65, (.iastore, 1), (0, 0, 0)), (66, (.iconst 0, 1), (0, 0, 0)), (67, (.ireturn, 1), (0, 0, 0)), (68, (.aload_n 1, 1), (0, 0, 0)), (69, (.getfield 67, 3), (0, 7, 11)), (72, (.iload_n 3, 1), (0, 0, 0)), (73, (.aaload, 1), (0, 0, 0)), (74, (.astore 4, 2), (0, 0, 0)), (76, (.aload 4, 2), (0, 0, 0)), (78, (.getfield 73, 3), (8, 5, 1)), (81, (.iconst (-1), 1), (0, 0, 0)), (82, (.if_icmp .eq 19, 3), (0, 0, 0)), (85, (.aload_n 0, 1), (0, 0, 0)), (86, (.aload 4, 2), (0, 0, 0)), (88, (.iload_n 2, 1), (0, 0, 0)), (89, (.invokevirtual 78, 3), (108, 8, 0)), (92, (.ifCond .eq 7, 3), (0, 0, 0)), (95, (.iconst 0, 1), (0, 0, 0)), (96, (.goto 4, 3), (0, 0, 0)), (99, (.iconst 1, 1), (0, 0, 0)), (100, (.ireturn, 1), (0, 0, 0)), (101, (.aload_n 0, 1), (0, 0, 0)), (102, (.getfield 18, 3), (9, 4, 28)), (105, (.iload_n 2, 1), (0, 0, 0)), (106, (.aload 4, 2), (0, 0, 0)), (108, (.getfield 82, 3), (8, 7, 5)), (111, (.iastore, 1), (0, 0, 0)), (112, (.aload 4, 2), (0, 0, 0)), (114, (.getfield 85, 3), (8, 6, 3)), (117, (.ifCond .eq 7, 3), (0, 0, 0)), (120, (.iconst 0, 1), (0, 0, 0)), (121, (.goto 4, 3), (0, 0, 0)), (124, (.iconst 2, 1), (0, 0, 0)), (125, (.ireturn, 1), (0, 0, 0))]
/-- MixfixBench$Worker.runSteps -/
def X_c108 : List (Nat × (Jvm.ClassFile.Instr × Nat) × (Nat × Nat × Nat)) := [(0, (.aload_n 0, 1), (0, 0, 0)), (1, (.iconst 0, 1), (0, 0, 0)), (2, (.putfield 25, 3), (9, 6, 32)), (5, (.iconst 0, 1), (0, 0, 0)), (6, (.istore_n 3, 1), (0, 0, 0)), (7, (.iload_n 3, 1), (0, 0, 0)), (8, (.aload_n 1, 1), (0, 0, 0)), (9, (.getfield 73, 3), (8, 5, 1)), (12, (.if_icmp .ge 82, 3), (0, 0, 0)), (15, (.aload_n 1, 1), (0, 0, 0)), (16, (.getfield 89, 3), (8, 13, 7)), (19, (.iload_n 3, 1), (0, 0, 0)), (20, (.iaload, 1), (0, 0, 0)), (21, (.istore 4, 2), (0, 0, 0)), (23, (.aload_n 1, 1), (0, 0, 0)), (24, (.getfield 92, 3), (8, 14, 9)), (27, (.iload_n 3, 1), (0, 0, 0)), (28, (.iaload, 1), (0, 0, 0)), (29, (.istore 5, 2), (0, 0, 0)), (31, (.iload 4, 2), (0, 0, 0)), (33, (.iconst 4, 1), (0, 0, 0)), (34, (.if_icmp .ne 12, 3), (0, 0, 0)), (37, (.aload_n 0, 1), (0, 0, 0)), (38, (.iload 5, 2), (0, 0, 0)), (40, (.invokevirtual 97, 3), (109, 10, 0)), (43, (.goto 45, 3), (0, 0, 0)), (46, (.iload 4, 2), (0, 0, 0)), (48, (.bipush 64, 2), (0, 0, 0)), (50, (.if_icmp .ne 27, 3), (0, 0, 0)), (53, (.aload_n 0, 1), (0, 0, 0)), (54, (.aload_n 0, 1), (0, 0, 0)), (55, (.getfield 18, 3), (9, 4, 28)), (58, (.aload_n 0, 1), (0, 0, 0)), (59, (.getfield 32, 3), (9, 1, 22)), (62, (.iload_n 2, 1), (0, 0, 0)), (63, (.iload 5, 2), (0, 0, 0)), (65, (.iconst 1, 1), (0, 0, 0)), (66, (.isub, 1), (0, 0, 0)), (67, (.invokevirtual 63, 3), (85, 6, 0)), (70, (.iaload, 1), (0, 0, 0)), (71, (.invokevirtual 97, 3), (109, 10, 0)), (74, (.goto 14, 3), (0, 0, 0)), (77, (.aload_n 0, 1), (0, 0, 0)), (78, (.iload 4, 2), (0, 0, 0)), (80, (.invokevirtual 101, 3), (110, 12, 0)), (83, (.ifCond .ne 5, 3), (0, 0, 0)), (86, (.iconst 0, 1), (0, 0, 0)), (87, (.ireturn, 1), (0, 0, 0)), (88, (.iinc 3 1, 3), (0, 0, 0)), (91, (.goto (-84), 3), (0, 0, 0)), (94, (.aload_n 0, 1), (0, 0, 0)), (95, (.getfield 18, 3), (9, 4, 28)), (98, (.iload_n 2, 1), (0, 0, 0)), (99, (.aload_n 0, 1), (0, 0, 0)), (100, (.getfield 22, 3), (9, 5, 30)), (103, (.iconst 0, 1), (0, 0, 0)), (104, (.iaload, 1), (0, 0, 0)), (105, (.iastore, 1), (0, 0, 0)), (106, (.iconst 1, 1), (0, 0, 0)), (107, (.ireturn, 1), (0, 0, 0))]
/-- MixfixBench$Worker.push -/
def X_c109 : List (Nat × (Jvm.ClassFile.Instr × Nat) × (Nat × Nat × Nat)) := [(0, (.aload_n 0, 1), (0, 0, 0)), (1, (.getfield 25, 3), (9, 6, 32)), (4, (.bipush 16, 2), (0, 0, 0)), (6, (.if_icmp .ge 23, 3), (0, 0, 0)), (9, (.aload_n 0, 1), (0, 0, 0)), (10, (.getfield 22, 3), (9, 5, 30)), (13, (.aload_n 0, 1), (0, 0, 0)), (14, (.getfield 25, 3), (9, 6, 32)), (17, (.iload_n 1, 1), (0, 0, 0)), (18, (.iastore, 1), (0, 0, 0)), (19, (.aload_n 0, 1), (0, 0, 0)), (20, (.dup, 1), (0, 0, 0)), (21, (.getfield 25, 3), (9, 6, 32)), (24, (.iconst 1, 1), (0, 0, 0)), (25, (.iadd, 1), (0, 0, 0)), (26, (.putfield 25, 3), (9, 6, 32)), (29, (.return_, 1), (0, 0, 0))]
/-- MixfixBench$Worker.operate -/
def X_c110 : List (Nat × (Jvm.ClassFile.Instr × Nat) × (Nat × Nat × Nat)) := [(0, (.aload_n 0, 1), (0, 0, 0)), (1, (.getfield 25, 3), (9, 6, 32)), (4, (.iconst 2, 1), (0, 0, 0)), (5, (.if_icmp .ge 5, 3), (0, 0, 0)), (8, (.iconst 0, 1), (0, 0, 0)), (9, (.ireturn, 1), (0, 0, 0)), (10, (.aload_n 0, 1), (0, 0, 0)), (11, (.getfield 22, 3), (9, 5, 30)), (14, (.aload_n 0, 1), (0, 0, 0)), (15, (.getfield 25, 3), (9, 6, 32)), (18, (.iconst 1, 1), (0, 0, 0)), (19, (.isub, 1), (0, 0, 0)), (20, (.iaload, 1), (0, 0, 0)), (21, (.istore_n 2, 1), (0, 0, 0)), (22, (.aload_n 0, 1), (0, 0, 0)), (23, (.getfield 22, 3), (9, 5, 30)), (26, (.aload_n 0, 1), (0, 0, 0)), (27, (.getfield 25, 3), (9, 6, 32)), (30, (.iconst 2, 1), (0, 0, 0)), (31, (.isub, 1), (0, 0, 0)), (32, (.iaload, 1), (0, 0, 0)), (33, (.istore_n 3, 1), (0, 0, 0)), (34, (.iload_n 2, 1), (0, 0, 0)), (35, (.ifCond .ne 17, 3), (0, 0, 0)), (38, (.iload_n 1, 1), (0, 0, 0)), (39, (.bipush 47, 2), (0, 0, 0)), (41, (.if_icmp .eq 9, 3), (0, 0, 0)), (44, (.iload_n 1, 1), (0, 0, 0)), (45, (.bipush 37, 2), (0, 0, 0)), (47, (.if_icmp .ne 5, 3), (0, 0, 0)), (50, (.iconst 0, 1), (0, 0, 0)), (51, (.ireturn, 1), (0, 0, 0)), (52, (.aload_n 0, 1), (0, 0, 0)), (53, (.dup, 1), (0, 0, 0)), (54, (.getfield 25, 3), (9, 6, 32)), (57, (.iconst 1, 1), (0, 0, 0)), (58, (.isub, 1), (0, 0, 0)), (59, (.putfield 25, 3), (9, 6, 32)), (62, (.aload_n 0, 1), (0, 0, 0)), (63, (.getfield 22, 3), (9, 5, 30)), (66, (.aload_n 0, 1), (0, 0, 0)), (67, (.getfield 25, 3), (9, 6, 32)), (70, (.iconst 1, 1), (0, 0, 0)), (71, (.isub, 1), (0, 0, 0)), (72, (.iload_n 1, 1), (0, 0, 0)), (73, (.iload_n 3, 1), (0, 0, 0)), (74, (.iload_n 2, 1), (0, 0, 0)), (75, (.invokestatic 105, 3), (111, 14, 0)), (78, (.iastore, 1), (0, 0, 0)), (79, (.iconst 1, 1), (0, 0, 0)), (80, (.ireturn, 1), (0, 0, 0))]
/-- MixfixBench$Worker.outcome -/
def X_c111 : List (Nat × (Jvm.ClassFile.Instr × Nat) × (Nat × Nat × Nat)) := [(0, (.iload_n 0, 1), (0, 0, 0)), (1, (.tableswitch 95 37 47 #[83, 95, 95, 95, 95, 67, 59, 95, 63, 95, 71], 59), (0, 0, 0)), (60, (.iload_n 1, 1), (0, 0, 0)), (61, (.iload_n 2, 1), (0, 0, 0)), (62, (.iadd, 1), (0, 0, 0)), (63, (.ireturn, 1), (0, 0, 0)), (64, (.iload_n 1, 1), (0, 0, 0)), (65, (.iload_n 2, 1), (0, 0, 0)), (66, (.isub, 1), (0, 0, 0)), (67, (.ireturn, 1), (0, 0, 0)), (68, (.iload_n 1, 1), (0, 0, 0)), (69, (.iload_n 2, 1), (0, 0, 0)), (70, (.imul, 1), (0, 0, 0)), (71, (.ireturn, 1), (0, 0, 0)), (72, (.iload_n 2, 1), (0, 0, 0)), (73, (.ifCond .ne 7, 3), (0, 0, 0)), (76, (.iconst 0, 1), (0, 0, 0)), (77, (.goto 6, 3), (0, 0, 0)), (80, (.iload_n 1, 1), (0, 0, 0)), (81, (.iload_n 2, 1), (0, 0, 0)), (82, (.idiv, 1), (0, 0, 0)), (83, (.ireturn, 1), (0, 0, 0)), (84, (.iload_n 2, 1), (0, 0, 0)), (85, (.ifCond .ne 7, 3), (0, 0, 0)), (88, (.iconst 0, 1), (0, 0, 0)), (89, (.goto 6, 3), (0, 0, 0)), (92, (.iload_n 1, 1), (0, 0, 0)), (93, (.iload_n 2, 1), (0, 0, 0)), (94, (.irem, 1), (0, 0, 0)), (95, (.ireturn, 1), (0, 0, 0)), (96, (.iload_n 1, 1), (0, 0, 0)), (97, (.iload_n 2, 1), (0, 0, 0)), (98, (.if_icmp .ge 7, 3), (0, 0, 0)), (101, (.iconst 1, 1), (0, 0, 0)), (102, (.goto 4, 3), (0, 0, 0)), (105, (.iconst 0, 1), (0, 0, 0)), (106, (.ireturn, 1), (0, 0, 0))]
/-- MixfixBench.<init> -/
def X_c112 : List (Nat × (Jvm.ClassFile.Instr × Nat) × (Nat × Nat × Nat)) := [(0, (.aload_n 0, 1), (0, 0, 0)), (1, (.invokespecial 3, 3), (9999, 101, 0)), (4, (.aload_n 0, 1), (0, 0, 0)), (5, (.new 9, 3), (7, 104, 0)), (8, (.dup, 1), (0, 0, 0)), (9, (.invokespecial 11, 3), (91, 1, 0)), (12, (.putfield 12, 3), (10, 0, 48)), (15, (.aload_n 0, 1), (0, 0, 0)), (16, (.new 16, 3), (0, 121, 0)), (19, (.dup, 1), (0, 0, 0)), (20, (.invokespecial 18, 3), (0, 2, 0)), (23, (.putfield 19, 3), (10, 1, 50)), (26, (.aload_n 0, 1), (0, 0, 0)), (27, (.new 16, 3), (0, 121, 0)), (30, (.dup, 1), (0, 0, 0)), (31, (.invokespecial 18, 3), (0, 2, 0)), (34, (.putfield 23, 3), (10, 2, 52)), (37, (.aload_n 0, 1), (0, 0, 0)), (38, (.new 26, 3), (4, 264, 0)), (41, (.dup, 1), (0, 0, 0)), (42, (.aload_n 0, 1), (0, 0, 0)), (43, (.getfield 12, 3), (10, 0, 48)), (46, (.aload_n 0, 1), (0, 0, 0)), (47, (.getfield 23, 3), (10, 2, 52)), (50, (.invokespecial 28, 3), (64, 4, 0)), (53, (.putfield 31, 3), (10, 3, 54)), (56, (.aload_n 0, 1), (0, 0, 0)), (57, (.new 35, 3), (6, 313, 0)), (60, (.dup, 1), (0, 0, 0)), (61, (.invokespecial 37, 3), (86, 7, 0)), (64, (.putfield 38, 3), (10, 4, 56)), (67, (.aload_n 0, 1), (0, 0, 0)), (68, (.new 42, 3), (5, 333, 0)), (71, (.dup, 1), (0, 0, 0)), (72, (.invokespecial 44, 3), (82, 9, 0)), (75, (.putfield 45, 3), (10, 5, 58)), (78, (.aload_n 0, 1), (0, 0, 0)), (79, (.new 49, 3), (1, 371, 0)), (82, (.dup, 1), (0, 0, 0)), (83, (.aload_n 0, 1), (0, 0, 0)), (84, (.getfield 19, 3), (10, 1, 50)), (87, (.aload_n 0, 1), (0, 0, 0)), (88, (.getfield 38, 3), (10, 4, 56)), (91, (.invokespecial 51, 3), (21, 10, 0)), (94, (.putfield 54, 3), (10, 6, 60)), (97, (.aload_n 0, 1), (0, 0, 0)), (98, (.new 58, 3), (2, 404, 0)), (101, (.dup, 1), (0, 0, 0)), (102, (.aload_n 0, 1), (0, 0, 0)), (103, (.getfield 54, 3), (10, 6, 60)), (106, (.aload_n 0, 1), (0, 0, 0)), (107, (.getfield 38, 3), (10, 4, 56)), (110, (.aload_n 0, 1), (0, 0, 0)), (111, (.getfield 45, 3), (10, 5, 58)), (114, (.invokespecial 60, 3), (39, 12, 0)), (117, (.putfield 63, 3), (10, 7, 62)), (120, (.aload_n 0, 1), (0, 0, 0)), (121, (.new 67, 3), (9, 450, 0)), (124, (.dup, 1), (0, 0, 0)), (125, (.aload_n 0, 1), (0, 0, 0)), (126, (.getfield 38, 3), (10, 4, 56)), (129, (.aload_n 0, 1), (0, 0, 0)), (130, (.getfield 45, 3), (10, 5, 58)), (133, (.invokespecial 69, 3), (104, 14, 0)), (136, (.putfield 72, 3), (10, 8, 64)), (139, (.return_, 1), (0, 0, 0))]
/-- MixfixBench.feed -/
def X_c113 : List (Nat × (Jvm.ClassFile.Instr × Nat) × (Nat × Nat × Nat)) := [(0, (.aload_n 0, 1), (0, 0, 0)), (1, (.getfield 12, 3), (10, 0, 48)), (4, (.getfield 76, 3), (7, 1, 1)), (7, (.bipush 20, 2), (0, 0, 0)), (9, (.iadd, 1), (0, 0, 0)), (10, (.sipush 2000, 3), (0, 0, 0)), (13, (.if_icmp .le 5, 3), (0, 0, 0)), (16, (.iconst (-1), 1), (0, 0, 0)), (17, (.ireturn, 1), (0, 0, 0)), (18, (.aload_n 0, 1), (0, 0, 0)), (19, (.getfield 12, 3), (10, 0, 48)), (22, (.iload_n 1, 1), (0, 0, 0)), (23, (.invokevirtual 80, 3), (92, 16, 0)), (26, (.aload_n 0, 1), (0, 0, 0)), (27, (.getfield 12, 3), (10, 0, 48)), (30, (.iload_n 2, 1), (0, 0, 0)), (31, (.invokevirtual 80, 3), (92, 16, 0)), (34, (.aload_n 0, 1), (0, 0, 0)), (35, (.getfield 12, 3), (10, 0, 48)), (38, (.iload_n 3, 1), (0, 0, 0)), (39, (.invokevirtual 80, 3), (92, 16, 0)), (42, (.aload_n 0, 1), (0, 0, 0)), (43, (.getfield 12, 3), (10, 0, 48)), (46, (.iload 4, 2), (0, 0, 0)), (48, (.invokevirtual 80, 3), (92, 16, 0)), (51, (.aload_n 0, 1), (0, 0, 0)), (52, (.getfield 12, 3), (10, 0, 48)), (55, (.iload 5, 2), (0, 0, 0)), (57, (.invokevirtual 80, 3), (92, 16, 0)), (60, (.aload_n 0, 1), (0, 0, 0)), (61, (.getfield 12, 3), (10, 0, 48)), (64, (.getfield 76, 3), (7, 1, 1)), (67, (.ireturn, 1), (0, 0, 0))]
/-- MixfixBench.end -/
def X_c114 : List (Nat × (Jvm.ClassFile.Instr × Nat) × (Nat × Nat × Nat)) := [(0, (.iload_n 1, 1), (0, 0, 0)), (1, (.ifCond .lt 14, 3), (0, 0, 0)), (4, (.iload_n 1, 1), (0, 0, 0)), (5, (.aload_n 0, 1), (0, 0, 0)), (6, (.getfield 12, 3), (10, 0, 48)), (9, (.getfield 76, 3), (7, 1, 1)), (12, (.if_icmp .le 5, 3), (0, 0, 0)), (15, (.iconst (-1), 1), (0, 0, 0)), (16, (.ireturn, 1), (0, 0, 0)), (17, (.aload_n 0, 1), (0, 0, 0)), (18, (.getfield 12, 3), (10, 0, 48)), (21, (.iload_n 1, 1), (0, 0, 0)), (22, (.putfield 76, 3), (7, 1, 1)), (25, (.iload_n 1, 1), (0, 0, 0)), (26, (.ireturn, 1), (0, 0, 0))]
/-- MixfixBench.book -/
def X_c115 : List (Nat × (Jvm.ClassFile.Instr × Nat) × (Nat × Nat × Nat)) := [(0, (.aload_n 0, 1), (0, 0, 0)), (1, (.getfield 31, 3), (10, 3, 54)), (4, (.aload_n 0, 1), (0, 0, 0)), (5, (.getfield 23, 3), (10, 2, 52)), (8, (.invokevirtual 84, 3), (65, 18, 0)), (11, (.istore_n 1, 1), (0, 0, 0)), (12, (.aload_n 0, 1), (0, 0, 0)), (13, (.getfield 12, 3), (10, 0, 48)), (16, (.iconst 0, 1), (0, 0, 0)), (17, (.putfield 76, 3), (7, 1, 1)), (20, (.iload_n 1, 1), (0, 0, 0)), (21, (.ifCond .ne 5, 3), (0, 0, 0)), (24, (.iconst (-1), 1), (0, 0, 0)), (25, (.ireturn, 1), (0, 0, 0)), (26, (.aload_n 0, 1), (0, 0, 0)), (27, (.getfield 23, 3), (10, 2, 52)), (30, (.astore_n 2, 1), (0, 0, 0)), (31, (.aload_n 0, 1), (0, 0, 0)), (32, (.aload_n 0, 1), (0, 0, 0)), (33, (.getfield 19, 3), (10, 1, 50)), (36, (.putfield 23, 3), (10, 2, 52)), (39, (.aload_n 0, 1), (0, 0, 0)), (40, (.aload_n 2, 1), (0, 0, 0)), (41, (.putfield 19, 3), (10, 1, 50)), (44, (.aload_n 0, 1), (0, 0, 0)), (45, (.getfield 38, 3), (10, 4, 56)), (48, (.iconst 0, 1), (0, 0, 0)), (49, (.putfield 88, 3), (6, 0, 31)), (52, (.aload_n 0, 1), (0, 0, 0)), (53, (.invokevirtual 91, 3), (130, 20, 0)), (56, (.aload_n 0, 1), (0, 0, 0)), (57, (.getfield 19, 3), (10, 1, 50)), (60, (.getfield 94, 3), (0, 2, 23)), (63, (.ireturn, 1), (0, 0, 0))]
/-- MixfixBench.fault -/
def X_c116 : List (Nat × (Jvm.ClassFile.Instr × Nat) × (Nat × Nat × Nat)) := [(0, (.iload_n 1, 1), (0, 0, 0)), (1, (.ifCond .ne 11, 3), (0, 0, 0)), (4, (.aload_n 0, 1), (0, 0, 0)), (5, (.getfield 31, 3), (10, 3, 54)), (8, (.getfield 97, 3), (4, 2, 27)), (11, (.ireturn, 1), (0, 0, 0)), (12, (.iload_n 1, 1), (0, 0, 0)), (13, (.iconst 1, 1), (0, 0, 0)), (14, (.if_icmp .ne 13, 3), (0, 0, 0)), (17, (.aload_n 0, 1), (0, 0, 0)), (18, (.getfield 31, 3), (10, 3, 54)), (21, (.getfield 100, 3), (4, 3, 29)), (24, (.goto 4, 3), (0, 0, 0)), (27, (.iconst (-1), 1), (0, 0, 0)), (28, (.ireturn, 1), (0, 0, 0))]
/-- MixfixBench.about -/
def X_c117 : List (Nat × (Jvm.ClassFile.Instr × Nat) × (Nat × Nat × Nat)) := [(0, (.iload_n 1, 1), (0, 0, 0)), (1, (.tableswitch 87 0 5 #[39, 47, 55, 63, 71, 79], 39), (0, 0, 0)), (40, (.aload_n 0, 1), (0, 0, 0)), (41, (.getfield 19, 3), (10, 1, 50)), (44, (.getfield 103, 3), (0, 0, 19)), (47, (.ireturn, 1), (0, 0, 0)), (48, (.aload_n 0, 1), (0, 0, 0)), (49, (.getfield 19, 3), (10, 1, 50)), (52, (.getfield 106, 3), (0, 1, 21)), (55, (.ireturn, 1), (0, 0, 0)), (56, (.aload_n 0, 1), (0, 0, 0)), (57, (.getfield 19, 3), (10, 1, 50)), (60, (.getfield 94, 3), (0, 2, 23)), (63, (.ireturn, 1), (0, 0, 0)), (64, (.aload_n 0, 1), (0, 0, 0)), (65, (.getfield 38, 3), (10, 4, 56)), (68, (.getfield 88, 3), (6, 0, 31)), (71, (.ireturn, 1), (0, 0, 0)), (72, (.aload_n 0, 1), (0, 0, 0)), (73, (.getfield 45, 3), (10, 5, 58)), (76, (.getfield 109, 3), (5, 0, 33)), (79, (.ireturn, 1), (0, 0, 0)), (80, (.aload_n 0, 1), (0, 0, 0)), (81, (.getfield 12, 3), (10, 0, 48)), (84, (.getfield 76, 3), (7, 1, 1)), (87, (.ireturn, 1), (0, 0, 0)), (88, (.iconst (-1), 1), (0, 0, 0)), (89, (.ireturn, 1), (0, 0, 0))]
/-- MixfixBench.word -/
def X_c118 : List (Nat × (Jvm.ClassFile.Instr × Nat) × (Nat × Nat × Nat)) := [(0, (.aload_n 0, 1), (0, 0, 0)), (1, (.getfield 19, 3), (10, 1, 50)), (4, (.iload_n 1, 1), (0, 0, 0)), (5, (.invokevirtual 110, 3), (4, 28, 0)), (8, (.ifCond .ne 5, 3), (0, 0, 0)), (11, (.iconst (-1), 1), (0, 0, 0)), (12, (.ireturn, 1), (0, 0, 0)), (13, (.aload_n 0, 1), (0, 0, 0)), (14, (.getfield 19, 3), (10, 1, 50)), (17, (.getfield 114, 3), (0, 7, 25)), (20, (.iload_n 1, 1), (0, 0, 0)), (21, (.aaload, 1), (0, 0, 0)), (22, (.astore_n 3, 1), (0, 0, 0)), (23, (.iload_n 2, 1), (0, 0, 0)), (24, (.tableswitch 79 0 6 #[44, 49, 54, 59, 64, 69, 74], 44), (0, 0, 0)), (68, (.aload_n 3, 1), (0, 0, 0)), (69, (.getfield 118, 3), (8, 0, 3)), (72, (.ireturn, 1), (0, 0, 0)), (73, (.aload_n 3, 1), (0, 0, 0)), (74, (.getfield 123, 3), (8, 1, 5)), (77, (.ireturn, 1), (0, 0, 0)), (78, (.aload_n 3, 1), (0, 0, 0)), (79, (.getfield 126, 3), (8, 2, 7)), (82, (.ireturn, 1), (0, 0, 0)), (83, (.aload_n 3, 1), (0, 0, 0)), (84, (.getfield 129, 3), (8, 3, 9)), (87, (.ireturn, 1), (0, 0, 0)), (88, (.aload_n 3, 1), (0, 0, 0)), (89, (.getfield 132, 3), (8, 4, 11)), (92, (.ireturn, 1), (0, 0, 0)), (93, (.aload_n 3, 1), (0, 0, 0)), (94, (.invokevirtual 135, 3), (101, 30, 0)), (97, (.ireturn, 1), (0, 0, 0)), (98, (.aload_n 3, 1), (0, 0, 0)), (99, (.getfield 139, 3), (8, 5, 13)), (102, (.ireturn, 1), (0, 0, 0)), (103, (.iconst (-1), 1), (0, 0, 0)), (104, (.ireturn, 1), (0, 0, 0))]
/-- MixfixBench.tighter -/
def X_c119 : List (Nat × (Jvm.ClassFile.Instr × Nat) × (Nat × Nat × Nat)) := [(0, (.aload_n 0, 1), (0, 0, 0)), (1, (.getfield 19, 3), (10, 1, 50)), (4, (.iload_n 1, 1), (0, 0, 0)), (5, (.invokevirtual 142, 3), (2, 32, 0)), (8, (.ifCond .eq 14, 3), (0, 0, 0)), (11, (.aload_n 0, 1), (0, 0, 0)), (12, (.getfield 19, 3), (10, 1, 50)), (15, (.iload_n 2, 1), (0, 0, 0)), (16, (.invokevirtual 142, 3), (2, 32, 0)), (19, (.ifCond .ne 5, 3), (0, 0, 0)), (22, (.iconst (-1), 1), (0, 0, 0)), (23, (.ireturn, 1), (0, 0, 0)), (24, (.aload_n 0, 1), (0, 0, 0)), (25, (.getfield 19, 3), (10, 1, 50)), (28, (.iload_n 1, 1), (0, 0, 0)), (29, (.iload_n 2, 1), (0, 0, 0)), (30, (.invokevirtual 145, 3), (11, 34, 0)), (33, (.ifCond .eq 7, 3), (0, 0, 0)), (36, (.iconst 1, 1), (0, 0, 0)), (37, (.goto 4, 3), (0, 0, 0)), (40, (.iconst 0, 1), (0, 0, 0)), (41, (.ireturn, 1), (0, 0, 0))]
/-- MixfixBench.under -/
def X_c120 : List (Nat × (Jvm.ClassFile.Instr × Nat) × (Nat × Nat × Nat)) := [(0, (.aload_n 0, 1), (0, 0, 0)), (1, (.getfield 19, 3), (10, 1, 50)), (4, (.iload_n 1, 1), (0, 0, 0)), (5, (.invokevirtual 149, 3), (3, 36, 0)), (8, (.ifCond .eq 14, 3), (0, 0, 0)), (11, (.aload_n 0, 1), (0, 0, 0)), (12, (.getfield 19, 3), (10, 1, 50)), (15, (.iload_n 2, 1), (0, 0, 0)), (16, (.invokevirtual 149, 3), (3, 36, 0)), (19, (.ifCond .ne 5, 3), (0, 0, 0)), (22, (.iconst (-1), 1), (0, 0, 0)), (23, (.ireturn, 1), (0, 0, 0)), (24, (.aload_n 0, 1), (0, 0, 0)), (25, (.getfield 19, 3), (10, 1, 50)), (28, (.iload_n 1, 1), (0, 0, 0)), (29, (.iload_n 2, 1), (0, 0, 0)), (30, (.invokevirtual 152, 3), (12, 38, 0)), (33, (.ifCond .eq 7, 3), (0, 0, 0)), (36, (.iconst 1, 1), (0, 0, 0)), (37, (.goto 4, 3), (0, 0, 0)), (40, (.iconst 0, 1), (0, 0, 0)), (41, (.ireturn, 1), (0, 0, 0))]
/-- MixfixBench.sentence -/
def X_c121 : List (Nat × (Jvm.ClassFile.Instr × Nat) × (Nat × Nat × Nat)) := [(0, (.aload_n 0, 1), (0, 0, 0)), (1, (.getfield 38, 3), (10, 4, 56)), (4, (.aload_n 0, 1), (0, 0, 0)), (5, (.getfield 12, 3), (10, 0, 48)), (8, (.invokevirtual 155, 3), (87, 40, 0)), (11, (.istore_n 1, 1), (0, 0, 0)), (12, (.aload_n 0, 1), (0, 0, 0)), (13, (.getfield 12, 3), (10, 0, 48)), (16, (.iconst 0, 1), (0, 0, 0)), (17, (.putfield 76, 3), (7, 1, 1)), (20, (.iload_n 1, 1), (0, 0, 0)), (21, (.ifCond .ne 5, 3), (0, 0, 0)), (24, (.iconst (-1), 1), (0, 0, 0)), (25, (.ireturn, 1), (0, 0, 0)), (26, (.aload_n 0, 1), (0, 0, 0)), (27, (.invokevirtual 91, 3), (130, 20, 0)), (30, (.aload_n 0, 1), (0, 0, 0)), (31, (.getfield 38, 3), (10, 4, 56)), (34, (.getfield 88, 3), (6, 0, 31)), (37, (.ireturn, 1), (0, 0, 0))]
/-- MixfixBench.count -/
def X_c122 : List (Nat × (Jvm.ClassFile.Instr × Nat) × (Nat × Nat × Nat)) := [(0, (.iload_n 1, 1), (0, 0, 0)), (1, (.ifCond .lt 19, 3), (0, 0, 0)), (4, (.iload_n 2, 1), (0, 0, 0)), (5, (.aload_n 0, 1), (0, 0, 0)), (6, (.getfield 38, 3), (10, 4, 56)), (9, (.getfield 88, 3), (6, 0, 31)), (12, (.if_icmp .gt 8, 3), (0, 0, 0)), (15, (.iload_n 1, 1), (0, 0, 0)), (16, (.iload_n 2, 1), (0, 0, 0)), (17, (.if_icmp .lt 5, 3), (0, 0, 0)), (20, (.lconst 0, 1), (0, 0, 0)), (21, (.lreturn, 1), (0, 0, 0)), (22, (.aload_n 0, 1), (0, 0, 0)), (23, (.getfield 54, 3), (10, 6, 60)), (26, (.invokevirtual 159, 3), (31, 42, 0)), (29, (.aload_n 0, 1), (0, 0, 0)), (30, (.getfield 54, 3), (10, 6, 60)), (33, (.iload_n 1, 1), (0, 0, 0)), (34, (.iload_n 2, 1), (0, 0, 0)), (35, (.invokevirtual 162, 3), (23, 44, 0)), (38, (.lreturn, 1), (0, 0, 0))]
/-- MixfixBench.quarrel -/
def X_c123 : List (Nat × (Jvm.ClassFile.Instr × Nat) × (Nat × Nat × Nat)) := [(0, (.aload_n 0, 1), (0, 0, 0)), (1, (.getfield 54, 3), (10, 6, 60)), (4, (.invokevirtual 159, 3), (31, 42, 0)), (7, (.iconst 1, 1), (0, 0, 0)), (8, (.istore_n 1, 1), (0, 0, 0)), (9, (.iload_n 1, 1), (0, 0, 0)), (10, (.aload_n 0, 1), (0, 0, 0)), (11, (.getfield 38, 3), (10, 4, 56)), (14, (.getfield 88, 3), (6, 0, 31)), (17, (.if_icmp .gt 63, 3), (0, 0, 0)), (20, (.iconst 0, 1), (0, 0, 0)), (21, (.istore_n 2, 1), (0, 0, 0)), (22, (.iload_n 2, 1), (0, 0, 0)), (23, (.iload_n 1, 1), (0, 0, 0)), (24, (.iadd, 1), (0, 0, 0)), (25, (.aload_n 0, 1), (0, 0, 0)), (26, (.getfield 38, 3), (10, 4, 56)), (29, (.getfield 88, 3), (6, 0, 31)), (32, (.if_icmp .gt 42, 3), (0, 0, 0)), (35, (.aload_n 0, 1), (0, 0, 0)), (36, (.getfield 54, 3), (10, 6, 60)), (39, (.iload_n 2, 1), (0, 0, 0)), (40, (.iload_n 2, 1), (0, 0, 0)), (41, (.iload_n 1, 1), (0, 0, 0)), (42, (.iadd, 1), (0, 0, 0)), (43, (.invokevirtual 162, 3), (23, 44, 0)), (46, (.lstore_n 3, 1), (0, 0, 0)), (47, (.lload_n 3, 1), (0, 0, 0)), (48, (.lconst 1, 1), (0, 0, 0)), (49, (.lcmp, 1), (0, 0, 0)), (50, (.ifCond .gt 11, 3), (0, 0, 0)), (53, (.lload_n 3, 1), (0, 0, 0)), (54, (.ldc2_w 166, 3), (18446744073709551614, 863, 0)), (57, (.lcmp, 1), (0, 0, 0)), (58, (.ifCond .ne 10, 3), (0, 0, 0)), (61, (.bipush 100, 2), (0, 0, 0)), (63, (.iload_n 2, 1), (0, 0, 0)), (64, (.imul, 1), (0, 0, 0)), (65, (.iload_n 1, 1), (0, 0, 0)), (66, (.iadd, 1), (0, 0, 0)), (67, (.ireturn, 1), (0, 0, 0)), (68, (.iinc 2 1, 3), (0, 0, 0)), (71, (.goto (-49), 3), (0, 0, 0)), (74, (.iinc 1 1, 3), (0, 0, 0)), (77, (.goto (-68), 3), (0, 0, 0)), (80, (.iconst (-1), 1), (0, 0, 0)), (81, (.ireturn, 1), (0, 0, 0))]
/-- MixfixBench.read -/
def X_c124 : List (Nat × (Jvm.ClassFile.Instr × Nat) × (Nat × Nat × Nat)) := [(0, (.lload_n 1, 1), (0, 0, 0)), (1, (.lconst 0, 1), (0, 0, 0)), (2, (.lcmp, 1), (0, 0, 0)), (3, (.ifCond .lt 13, 3), (0, 0, 0)), (6, (.aload_n 0, 1), (0, 0, 0)), (7, (.getfield 38, 3), (10, 4, 56)), (10, (.getfield 88, 3), (6, 0, 31)), (13, (.ifCond .ne 5, 3), (0, 0, 0)), (16, (.iconst (-1), 1), (0, 0, 0)), (17, (.ireturn, 1), (0, 0, 0)), (18, (.aload_n 0, 1), (0, 0, 0)), (19, (.getfield 54, 3), (10, 6, 60)), (22, (.invokevirtual 159, 3), (31, 42, 0)), (25, (.aload_n 0, 1), (0, 0, 0)), (26, (.getfield 54, 3), (10, 6, 60)), (29, (.iconst 0, 1), (0, 0, 0)), (30, (.aload_n 0, 1), (0, 0, 0)), (31, (.getfield 38, 3), (10, 4, 56)), (34, (.getfield 88, 3), (6, 0, 31)), (37, (.invokevirtual 162, 3), (23, 44, 0)), (40, (.lstore_n 3, 1), (0, 0, 0)), (41, (.lload_n 3, 1), (0, 0, 0)), (42, (.ldc2_w 166, 3), (18446744073709551614, 863, 0)), (45, (.lcmp, 1), (0, 0, 0)), (46, (.ifCond .eq 11, 3), (0, 0, 0)), (49, (.lload_n 1, 1), (0, 0, 0)), (50, (.lload_n 3, 1), (0, 0, 0)), (51, (.lcmp, 1), (0, 0, 0)), (52, (.ifCond .lt 5, 3), (0, 0, 0)), (55, (.iconst (-1), 1), (0, 0, 0)), (56, (.ireturn, 1), (0, 0, 0)), (57, (.aload_n 0, 1), (0, 0, 0)), (58, (.getfield 63, 3), (10, 7, 62)), (61, (.lload_n 1, 1), (0, 0, 0)), (62, (.invokevirtual 168, 3), (40, 46, 0)), (65, (.aload_n 0, 1), (0, 0, 0)), (66, (.getfield 72, 3), (10, 8, 64)), (69, (.invokevirtual 172, 3), (105, 26, 0)), (72, (.aload_n 0, 1), (0, 0, 0)), (73, (.getfield 45, 3), (10, 5, 58)), (76, (.getfield 109, 3), (5, 0, 33)), (79, (.ireturn, 1), (0, 0, 0))]
/-- MixfixBench.node -/
def X_c125 : List (Nat × (Jvm.ClassFile.Instr × Nat) × (Nat × Nat × Nat)) := [(0, (.iload_n 1, 1), (0, 0, 0)), (1, (.ifCond .lt 14, 3), (0, 0, 0)), (4, (.iload_n 1, 1), (0, 0, 0)), (5, (.aload_n 0, 1), (0, 0, 0)), (6, (.getfield 45, 3), (10, 5, 58)), (9, (.getfield 109, 3), (5, 0, 33)), (12, (.if_icmp .lt 5, 3), (0, 0, 0)), (15, (.iconst (-1), 1), (0, 0, 0)), (16, (.ireturn, 1), (0, 0, 0)), (17, (.iload_n 2, 1), (0, 0, 0)), (18, (.tableswitch 84 0 4 #[34, 44, 54, 64, 74], 34), (0, 0, 0)), (52, (.aload_n 0, 1), (0, 0, 0)), (53, (.getfield 45, 3), (10, 5, 58)), (56, (.getfield 175, 3), (5, 1, 35)), (59, (.iload_n 1, 1), (0, 0, 0)), (60, (.iaload, 1), (0, 0, 0)), (61, (.ireturn, 1), (0, 0, 0)), (62, (.aload_n 0, 1), (0, 0, 0)), (63, (.getfield 45, 3), (10, 5, 58)), (66, (.getfield 179, 3), (5, 2, 37)), (69, (.iload_n 1, 1), (0, 0, 0)), (70, (.iaload, 1), (0, 0, 0)), (71, (.ireturn, 1), (0, 0, 0)), (72, (.aload_n 0, 1), (0, 0, 0)), (73, (.getfield 45, 3), (10, 5, 58)), (76, (.getfield 182, 3), (5, 3, 39)), (79, (.iload_n 1, 1), (0, 0, 0)), (80, (.iaload, 1), (0, 0, 0)), (81, (.ireturn, 1), (0, 0, 0)), (82, (.aload_n 0, 1), (0, 0, 0)), (83, (.getfield 45, 3), (10, 5, 58)), (86, (.getfield 184, 3), (5, 4, 41)), (89, (.iload_n 1, 1), (0, 0, 0)), (90, (.iaload, 1), (0, 0, 0)), (91, (.ireturn, 1), (0, 0, 0)), (92, (.aload_n 0, 1), (0, 0, 0)), (93, (.getfield 45, 3), (10, 5, 58)), (96, (.getfield 187, 3), (5, 5, 43)), (99, (.iload_n 1, 1), (0, 0, 0)), (100, (.iaload, 1), (0, 0, 0)), (101, (.ireturn, 1), (0, 0, 0)), (102, (.iconst (-1), 1), (0, 0, 0)), (103, (.ireturn, 1), (0, 0, 0))]
/-- MixfixBench.bind -/
def X_c126 : List (Nat × (Jvm.ClassFile.Instr × Nat) × (Nat × Nat × Nat)) := [(0, (.aload_n 0, 1), (0, 0, 0)), (1, (.getfield 19, 3), (10, 1, 50)), (4, (.iload_n 1, 1), (0, 0, 0)), (5, (.invokevirtual 110, 3), (4, 28, 0)), (8, (.ifCond .ne 5, 3), (0, 0, 0)), (11, (.iconst 0, 1), (0, 0, 0)), (12, (.ireturn, 1), (0, 0, 0)), (13, (.aload_n 0, 1), (0, 0, 0)), (14, (.getfield 19, 3), (10, 1, 50)), (17, (.getfield 114, 3), (0, 7, 25)), (20, (.iload_n 1, 1), (0, 0, 0)), (21, (.aaload, 1), (0, 0, 0)), (22, (.astore_n 3, 1), (0, 0, 0)), (23, (.aload_n 3, 1), (0, 0, 0)), (24, (.getfield 139, 3), (8, 5, 13)), (27, (.iconst (-1), 1), (0, 0, 0)), (28, (.if_icmp .ne 10, 3), (0, 0, 0)), (31, (.aload_n 3, 1), (0, 0, 0)), (32, (.getfield 132, 3), (8, 4, 11)), (35, (.ifCond .le 5, 3), (0, 0, 0)), (38, (.iconst 0, 1), (0, 0, 0)), (39, (.ireturn, 1), (0, 0, 0)), (40, (.aload_n 3, 1), (0, 0, 0)), (41, (.iconst 1, 1), (0, 0, 0)), (42, (.putfield 190, 3), (8, 6, 15)), (45, (.aload_n 3, 1), (0, 0, 0)), (46, (.iload_n 2, 1), (0, 0, 0)), (47, (.putfield 194, 3), (8, 7, 17)), (50, (.iconst 1, 1), (0, 0, 0)), (51, (.ireturn, 1), (0, 0, 0))]
/-- MixfixBench.work -/
def X_c127 : List (Nat × (Jvm.ClassFile.Instr × Nat) × (Nat × Nat × Nat)) := [(0, (.aload_n 0, 1), (0, 0, 0)), (1, (.getfield 45, 3), (10, 5, 58)), (4, (.getfield 109, 3), (5, 0, 33)), (7, (.ifCond .ne 7, 3), (0, 0, 0)), (10, (.iconst (-1), 1), (0, 0, 0)), (11, (.goto 14, 3), (0, 0, 0)), (14, (.aload_n 0, 1), (0, 0, 0)), (15, (.getfield 72, 3), (10, 8, 64)), (18, (.aload_n 0, 1), (0, 0, 0)), (19, (.getfield 19, 3), (10, 1, 50)), (22, (.invokevirtual 197, 3), (106, 48, 0)), (25, (.ireturn, 1), (0, 0, 0))]
/-- MixfixBench.worked -/
def X_c128 : List (Nat × (Jvm.ClassFile.Instr × Nat) × (Nat × Nat × Nat)) := [(0, (.iload_n 1, 1), (0, 0, 0)), (1, (.ifCond .ne 11, 3), (0, 0, 0)), (4, (.aload_n 0, 1), (0, 0, 0)), (5, (.getfield 72, 3), (10, 8, 64)), (8, (.getfield 201, 3), (9, 2, 45)), (11, (.ireturn, 1), (0, 0, 0)), (12, (.iload_n 1, 1), (0, 0, 0)), (13, (.iconst 1, 1), (0, 0, 0)), (14, (.if_icmp .ne 13, 3), (0, 0, 0)), (17, (.aload_n 0, 1), (0, 0, 0)), (18, (.getfield 72, 3), (10, 8, 64)), (21, (.getfield 204, 3), (9, 3, 47)), (24, (.goto 4, 3), (0, 0, 0)), (27, (.iconst (-1), 1), (0, 0, 0)), (28, (.ireturn, 1), (0, 0, 0))]
/-- MixfixBench.sure -/
def X_c129 : List (Nat × (Jvm.ClassFile.Instr × Nat) × (Nat × Nat × Nat)) := [(0, (.iconst 0, 1), (0, 0, 0)), (1, (.istore_n 1, 1), (0, 0, 0)), (2, (.iload_n 1, 1), (0, 0, 0)), (3, (.aload_n 0, 1), (0, 0, 0)), (4, (.getfield 19, 3), (10, 1, 50)), (7, (.getfield 94, 3), (0, 2, 23)), (10, (.if_icmp .ge 47, 3), (0, 0, 0)), (13, (.iload_n 1, 1), (0, 0, 0)), (14, (.istore_n 2, 1), (0, 0, 0)), (15, (.iload_n 2, 1), (0, 0, 0)), (16, (.aload_n 0, 1), (0, 0, 0)), (17, (.getfield 19, 3), (10, 1, 50)), (20, (.getfield 94, 3), (0, 2, 23)), (23, (.if_icmp .ge 28, 3), (0, 0, 0)), (26, (.aload_n 0, 1), (0, 0, 0)), (27, (.getfield 19, 3), (10, 1, 50)), (30, (.iload_n 1, 1), (0, 0, 0)), (31, (.iload_n 2, 1), (0, 0, 0)), (32, (.invokevirtual 207, 3), (18, 50, 0)), (35, (.ifCond .eq 10, 3), (0, 0, 0)), (38, (.bipush 100, 2), (0, 0, 0)), (40, (.iload_n 1, 1), (0, 0, 0)), (41, (.imul, 1), (0, 0, 0)), (42, (.iload_n 2, 1), (0, 0, 0)), (43, (.iadd, 1), (0, 0, 0)), (44, (.ireturn, 1), (0, 0, 0)), (45, (.iinc 2 1, 3), (0, 0, 0)), (48, (.goto (-33), 3), (0, 0, 0)), (51, (.iinc 1 1, 3), (0, 0, 0)), (54, (.goto (-52), 3), (0, 0, 0)), (57, (.iconst (-1), 1), (0, 0, 0)), (58, (.ireturn, 1), (0, 0, 0))]
/-- MixfixBench.dropReading -/
def X_c130 : List (Nat × (Jvm.ClassFile.Instr × Nat) × (Nat × Nat × Nat)) := [(0, (.aload_n 0, 1), (0, 0, 0)), (1, (.getfield 54, 3), (10, 6, 60)), (4, (.aload_n 0, 1), (0, 0, 0)), (5, (.getfield 19, 3), (10, 1, 50)), (8, (.invokevirtual 210, 3), (22, 22, 0)), (11, (.aload_n 0, 1), (0, 0, 0)), (12, (.getfield 45, 3), (10, 5, 58)), (15, (.invokevirtual 214, 3), (83, 24, 0)), (18, (.aload_n 0, 1), (0, 0, 0)), (19, (.getfield 72, 3), (10, 8, 64)), (22, (.invokevirtual 172, 3), (105, 26, 0)), (25, (.return_, 1), (0, 0, 0))]
/-- MixfixBench.hasBit -/
def X_c131 : List (Nat × (Jvm.ClassFile.Instr × Nat) × (Nat × Nat × Nat)) := [(0, (.iload_n 0, 1), (0, 0, 0)), (1, (.iload_n 1, 1), (0, 0, 0)), (2, (.ishr, 1), (0, 0, 0)), (3, (.iconst 1, 1), (0, 0, 0)), (4, (.iand, 1), (0, 0, 0)), (5, (.iconst 1, 1), (0, 0, 0)), (6, (.if_icmp .ne 7, 3), (0, 0, 0)), (9, (.iconst 1, 1), (0, 0, 0)), (10, (.goto 4, 3), (0, 0, 0)), (13, (.iconst 0, 1), (0, 0, 0)), (14, (.ireturn, 1), (0, 0, 0))]
/-- MixfixBench.isDigit -/
def X_c132 : List (Nat × (Jvm.ClassFile.Instr × Nat) × (Nat × Nat × Nat)) := [(0, (.iload_n 0, 1), (0, 0, 0)), (1, (.bipush 48, 2), (0, 0, 0)), (3, (.if_icmp .lt 13, 3), (0, 0, 0)), (6, (.iload_n 0, 1), (0, 0, 0)), (7, (.bipush 57, 2), (0, 0, 0)), (9, (.if_icmp .gt 7, 3), (0, 0, 0)), (12, (.iconst 1, 1), (0, 0, 0)), (13, (.goto 4, 3), (0, 0, 0)), (16, (.iconst 0, 1), (0, 0, 0)), (17, (.ireturn, 1), (0, 0, 0))]
/-- MixfixBench.isBlank -/
def X_c133 : List (Nat × (Jvm.ClassFile.Instr × Nat) × (Nat × Nat × Nat)) := [(0, (.iload_n 0, 1), (0, 0, 0)), (1, (.bipush 32, 2), (0, 0, 0)), (3, (.if_icmp .eq 9, 3), (0, 0, 0)), (6, (.iload_n 0, 1), (0, 0, 0)), (7, (.bipush 10, 2), (0, 0, 0)), (9, (.if_icmp .ne 7, 3), (0, 0, 0)), (12, (.iconst 1, 1), (0, 0, 0)), (13, (.goto 4, 3), (0, 0, 0)), (16, (.iconst 0, 1), (0, 0, 0)), (17, (.ireturn, 1), (0, 0, 0))]
/-- MixfixBench.plus -/
def X_c134 : List (Nat × (Jvm.ClassFile.Instr × Nat) × (Nat × Nat × Nat)) := [(0, (.lload_n 0, 1), (0, 0, 0)), (1, (.ldc2_w 166, 3), (18446744073709551614, 863, 0)), (4, (.lcmp, 1), (0, 0, 0)), (5, (.ifCond .eq 11, 3), (0, 0, 0)), (8, (.lload_n 2, 1), (0, 0, 0)), (9, (.ldc2_w 166, 3), (18446744073709551614, 863, 0)), (12, (.lcmp, 1), (0, 0, 0)), (13, (.ifCond .ne 7, 3), (0, 0, 0)), (16, (.ldc2_w 166, 3), (18446744073709551614, 863, 0)), (19, (.lreturn, 1), (0, 0, 0)), (20, (.lload_n 0, 1), (0, 0, 0)), (21, (.lload_n 2, 1), (0, 0, 0)), (22, (.ladd, 1), (0, 0, 0)), (23, (.lstore 4, 2), (0, 0, 0)), (25, (.lload 4, 2), (0, 0, 0)), (27, (.lconst 0, 1), (0, 0, 0)), (28, (.lcmp, 1), (0, 0, 0)), (29, (.ifCond .ge 9, 3), (0, 0, 0)), (32, (.ldc2_w 166, 3), (18446744073709551614, 863, 0)), (35, (.goto 5, 3), (0, 0, 0)), (38, (.lload 4, 2), (0, 0, 0)), (40, (.lreturn, 1), (0, 0, 0))]
/-- MixfixBench.times -/
def X_c135 : List (Nat × (Jvm.ClassFile.Instr × Nat) × (Nat × Nat × Nat)) := [(0, (.lload_n 0, 1), (0, 0, 0)), (1, (.lconst 0, 1), (0, 0, 0)), (2, (.lcmp, 1), (0, 0, 0)), (3, (.ifCond .eq 9, 3), (0, 0, 0)), (6, (.lload_n 2, 1), (0, 0, 0)), (7, (.lconst 0, 1), (0, 0, 0)), (8, (.lcmp, 1), (0, 0, 0)), (9, (.ifCond .ne 5, 3), (0, 0, 0)), (12, (.lconst 0, 1), (0, 0, 0)), (13, (.lreturn, 1), (0, 0, 0)), (14, (.lload_n 0, 1), (0, 0, 0)), (15, (.ldc2_w 166, 3), (18446744073709551614, 863, 0)), (18, (.lcmp, 1), (0, 0, 0)), (19, (.ifCond .eq 21, 3), (0, 0, 0)), (22, (.lload_n 2, 1), (0, 0, 0)), (23, (.ldc2_w 166, 3), (18446744073709551614, 863, 0)), (26, (.lcmp, 1), (0, 0, 0)), (27, (.ifCond .eq 13, 3), (0, 0, 0)), (30, (.lload_n 0, 1), (0, 0, 0)), (31, (.ldc2_w 217, 3), (9223372036854775807, 864, 0)), (34, (.lload_n 2, 1), (0, 0, 0)), (35, (.ldiv, 1), (0, 0, 0)), (36, (.lcmp, 1), (0, 0, 0)), (37, (.ifCond .le 7, 3), (0, 0, 0)), (40, (.ldc2_w 166, 3), (18446744073709551614, 863, 0)), (43, (.lreturn, 1), (0, 0, 0)), (44, (.lload_n 0, 1), (0, 0, 0)), (45, (.lload_n 2, 1), (0, 0, 0)), (46, (.lmul, 1), (0, 0, 0)), (47, (.lreturn, 1), (0, 0, 0))]
/-- MixfixBenchModel.sign -/
def X_c136 : List (Nat × (Jvm.ClassFile.Instr × Nat) × (Nat × Nat × Nat)) := [(0, (.iload_n 1, 1), (0, 0, 0)), (1, (.aload_n 0, 1), (0, 0, 0)), (2, (.getfield 1, 3), (11, 3, 6)), (5, (.if_icmp .ge 16, 3), (0, 0, 0)), (8, (.aload_n 0, 1), (0, 0, 0)), (9, (.getfield 7, 3), (11, 2, 4)), (12, (.iload_n 1, 1), (0, 0, 0)), (13, (.baload, 1), (0, 0, 0)), (14, (.sipush 255, 3), (0, 0, 0)), (17, (.iand, 1), (0, 0, 0)), (18, (.goto 4, 3), (0, 0, 0)), (21, (.iconst 0, 1), (0, 0, 0)), (22, (.ireturn, 1), (0, 0, 0))]
/-- MixfixBenchModel.isLetter -/
def X_c137 : List (Nat × (Jvm.ClassFile.Instr × Nat) × (Nat × Nat × Nat)) := [(0, (.iload_n 0, 1), (0, 0, 0)), (1, (.bipush 97, 2), (0, 0, 0)), (3, (.if_icmp .lt 13, 3), (0, 0, 0)), (6, (.iload_n 0, 1), (0, 0, 0)), (7, (.bipush 122, 2), (0, 0, 0)), (9, (.if_icmp .gt 7, 3), (0, 0, 0)), (12, (.iconst 1, 1), (0, 0, 0)), (13, (.goto 4, 3), (0, 0, 0)), (16, (.iconst 0, 1), (0, 0, 0)), (17, (.ireturn, 1), (0, 0, 0))]
/-- MixfixBenchModel.isDigit -/
def X_c138 : List (Nat × (Jvm.ClassFile.Instr × Nat) × (Nat × Nat × Nat)) := [(0, (.iload_n 0, 1), (0, 0, 0)), (1, (.bipush 48, 2), (0, 0, 0)), (3, (.if_icmp .lt 13, 3), (0, 0, 0)), (6, (.iload_n 0, 1), (0, 0, 0)), (7, (.bipush 57, 2), (0, 0, 0)), (9, (.if_icmp .gt 7, 3), (0, 0, 0)), (12, (.iconst 1, 1), (0, 0, 0)), (13, (.goto 4, 3), (0, 0, 0)), (16, (.iconst 0, 1), (0, 0, 0)), (17, (.ireturn, 1), (0, 0, 0))]
/-- MixfixBenchModel.fails -/
def X_c139 : List (Nat × (Jvm.ClassFile.Instr × Nat) × (Nat × Nat × Nat)) := [(0, (.aload_n 0, 1), (0, 0, 0)), (1, (.getfield 11, 3), (11, 5, 10)), (4, (.ifCond .le 4, 3), (0, 0, 0)), (7, (.return_, 1), (0, 0, 0)), (8, (.aload_n 0, 1), (0, 0, 0)), (9, (.iload_n 1, 1), (0, 0, 0)), (10, (.putfield 11, 3), (11, 5, 10)), (13, (.aload_n 0, 1), (0, 0, 0)), (14, (.iload_n 2, 1), (0, 0, 0)), (15, (.putfield 14, 3), (11, 6, 12)), (18, (.return_, 1), (0, 0, 0))]
/-- MixfixBenchModel.isGood -/
def X_c140 : List (Nat × (Jvm.ClassFile.Instr × Nat) × (Nat × Nat × Nat)) := [(0, (.aload_n 0, 1), (0, 0, 0)), (1, (.getfield 11, 3), (11, 5, 10)), (4, (.ifCond .ne 7, 3), (0, 0, 0)), (7, (.iconst 1, 1), (0, 0, 0)), (8, (.goto 4, 3), (0, 0, 0)), (11, (.iconst 0, 1), (0, 0, 0)), (12, (.ireturn, 1), (0, 0, 0))]
/-- MixfixBenchModel.next -/
def X_c141 : List (Nat × (Jvm.ClassFile.Instr × Nat) × (Nat × Nat × Nat)) := [(0, (.aload_n 0, 1), (0, 0, 0)), (1, (.aload_n 0, 1), (0, 0, 0)), (2, (.getfield 17, 3), (11, 8, 16)), (5, (.putfield 20, 3), (11, 7, 14)), (8, (.aload_n 0, 1), (0, 0, 0)), (9, (.getfield 20, 3), (11, 7, 14)), (12, (.aload_n 0, 1), (0, 0, 0)), (13, (.getfield 1, 3), (11, 3, 6)), (16, (.if_icmp .ge 42, 3), (0, 0, 0)), (19, (.aload_n 0, 1), (0, 0, 0)), (20, (.aload_n 0, 1), (0, 0, 0)), (21, (.getfield 20, 3), (11, 7, 14)), (24, (.invokevirtual 23, 3), (136, 2, 0)), (27, (.bipush 32, 2), (0, 0, 0)), (29, (.if_icmp .eq 16, 3), (0, 0, 0)), (32, (.aload_n 0, 1), (0, 0, 0)), (33, (.aload_n 0, 1), (0, 0, 0)), (34, (.getfield 20, 3), (11, 7, 14)), (37, (.invokevirtual 23, 3), (136, 2, 0)), (40, (.bipush 10, 2), (0, 0, 0)), (42, (.if_icmp .ne 16, 3), (0, 0, 0)), (45, (.aload_n 0, 1), (0, 0, 0)), (46, (.dup, 1), (0, 0, 0)), (47, (.getfield 20, 3), (11, 7, 14)), (50, (.iconst 1, 1), (0, 0, 0)), (51, (.iadd, 1), (0, 0, 0)), (52, (.putfield 20, 3), (11, 7, 14)), (55, (.goto (-47), 3), (0, 0, 0)), (58, (.aload_n 0, 1), (0, 0, 0)), (59, (.aload_n 0, 1), (0, 0, 0)), (60, (.getfield 20, 3), (11, 7, 14)), (63, (.invokevirtual 23, 3), (136, 2, 0)), (66, (.istore_n 1, 1), (0, 0, 0)), (67, (.aload_n 0, 1), (0, 0, 0)), (68, (.aload_n 0, 1), (0, 0, 0)), (69, (.getfield 20, 3), (11, 7, 14)), (72, (.iconst 1, 1), (0, 0, 0)), (73, (.iadd, 1), (0, 0, 0)), (74, (.putfield 17, 3), (11, 8, 16)), (77, (.aload_n 0, 1), (0, 0, 0)), (78, (.getfield 20, 3), (11, 7, 14)), (81, (.aload_n 0, 1), (0, 0, 0)), (82, (.getfield 1, 3), (11, 3, 6)), (85, (.if_icmp .lt 27, 3), (0, 0, 0)), (88, (.aload_n 0, 1), (0, 0, 0)), (89, (.iconst 0, 1), (0, 0, 0)), (90, (.putfield 27, 3), (11, 9, 18)), (93, (.aload_n 0, 1), (0, 0, 0)), (94, (.aload_n 0, 1), (0, 0, 0)), (95, (.getfield 1, 3), (11, 3, 6)), (98, (.putfield 20, 3), (11, 7, 14)), (101, (.aload_n 0, 1), (0, 0, 0)), (102, (.aload_n 0, 1), (0, 0, 0)), (103, (.getfield 1, 3), (11, 3, 6)), (106, (.putfield 17, 3), (11, 8, 16)), (109, (.goto 442, 3), (0, 0, 0)), (112, (.iload_n 1, 1), (0, 0, 0)), (113, (.invokestatic 30, 3), (137, 4, 0)), (116, (.ifCond .eq 173, 3), (0, 0, 0)), (119, (.aload_n 0, 1), (0, 0, 0)), (120, (.aload_n 0, 1), (0, 0, 0)), (121, (.getfield 17, 3), (11, 8, 16)), (124, (.invokevirtual 23, 3), (136, 2, 0)), (127, (.invokestatic 30, 3), (137, 4, 0)), (130, (.ifCond .ne 17, 3), (0, 0, 0)), (133, (.aload_n 0, 1), (0, 0, 0)), (134, (.aload_n 0, 1), (0, 0, 0)), (135, (.getfield 17, 3), (11, 8, 16)), (138, (.invokevirtual 23, 3), (136, 2, 0)), (141, (.invokestatic 34, 3), (138, 6, 0)), (144, (.ifCond .eq 16, 3), (0, 0, 0)), (147, (.aload_n 0, 1), (0, 0, 0)), (148, (.dup, 1), (0, 0, 0)), (149, (.getfield 17, 3), (11, 8, 16)), (152, (.iconst 1, 1), (0, 0, 0)), (153, (.iadd, 1), (0, 0, 0)), (154, (.putfield 17, 3), (11, 8, 16)), (157, (.goto (-38), 3), (0, 0, 0)), (160, (.aload_n 0, 1), (0, 0, 0)), (161, (.aload_n 0, 1), (0, 0, 0)), (162, (.getfield 20, 3), (11, 7, 14)), (165, (.aload_n 0, 1), (0, 0, 0)), (166, (.getfield 17, 3), (11, 8, 16)), (169, (.invokevirtual 37, 3), (142, 8, 0)), (172, (.aload_n 0, 1), (0, 0, 0)), (173, (.getfield 41, 3), (11, 12, 24)), (176, (.ldc2_w 45, 3), (1918987883, 1285, 0)), (179, (.lcmp, 1), (0, 0, 0)), (180, (.ifCond .eq 69, 3), (0, 0, 0)), (183, (.aload_n 0, 1), (0, 0, 0)), (184, (.getfield 41, 3), (11, 12, 24)), (187, (.ldc2_w 47, 3), (32766990153442674, 1286, 0)), (190, (.lcmp, 1), (0, 0, 0)), (191, (.ifCond .eq 58, 3), (0, 0, 0)), (194, (.aload_n 0, 1), (0, 0, 0)), (195, (.getfield 41, 3), (11, 12, 24)), (198, (.ldc2_w 49, 3), (1802071652, 1287, 0)), (201, (.lcmp, 1), (0, 0, 0)), (202, (.ifCond .eq 47, 3), (0, 0, 0)), (205, (.aload_n 0, 1), (0, 0, 0)), (206, (.getfield 41, 3), (11, 12, 24)), (209, (.ldc2_w 51, 3), (504363246962, 1288, 0)), (212, (.lcmp, 1), (0, 0, 0)), (213, (.ifCond .eq 36, 3), (0, 0, 0)), (216, (.aload_n 0, 1), (0, 0, 0)), (217, (.getfield 41, 3), (11, 12, 24)), (220, (.ldc2_w 53, 3), (2003792484, 1289, 0)), (223, (.lcmp, 1), (0, 0, 0)), (224, (.ifCond .eq 25, 3), (0, 0, 0)), (227, (.aload_n 0, 1), (0, 0, 0)), (228, (.getfield 41, 3), (11, 12, 24)), (231, (.ldc2_w 55, 3), (1818584692, 1290, 0)), (234, (.lcmp, 1), (0, 0, 0)), (235, (.ifCond .eq 14, 3), (0, 0, 0)), (238, (.aload_n 0, 1), (0, 0, 0)), (239, (.getfield 41, 3), (11, 12, 24)), (242, (.ldc2_w 57, 3), (491394656372, 1291, 0)), (245, (.lcmp, 1), (0, 0, 0)), (246, (.ifCond .ne 7, 3), (0, 0, 0)), (249, (.iconst 1, 1), (0, 0, 0)), (250, (.goto 4, 3), (0, 0, 0)), (253, (.iconst 0, 1), (0, 0, 0)), (254, (.istore_n 2, 1), (0, 0, 0)), (255, (.aload_n 0, 1), (0, 0, 0)), (256, (.aload_n 0, 1), (0, 0, 0)), (257, (.getfield 17, 3), (11, 8, 16)), (260, (.aload_n 0, 1), (0, 0, 0)), (261, (.getfield 20, 3), (11, 7, 14)), (264, (.isub, 1), (0, 0, 0)), (265, (.bipush 8, 2), (0, 0, 0)), (267, (.if_icmp .le 7, 3), (0, 0, 0)), (270, (.iconst 1, 1), (0, 0, 0)), (271, (.goto 12, 3), (0, 0, 0)), (274, (.iload_n 2, 1), (0, 0, 0)), (275, (.ifCond .eq 7, 3), (0, 0, 0)), (278, (.iconst 3, 1), (0, 0, 0)), (279, (.goto 4, 3), (0, 0, 0)), (282, (.iconst 2, 1), (0, 0, 0)), (283, (.putfield 27, 3), (11, 9, 18)), (286, (.goto 265, 3), (0, 0, 0)), (289, (.iload_n 1, 1), (0, 0, 0)), (290, (.invokestatic 34, 3), (138, 6, 0)), (293, (.ifCond .eq 128, 3), (0, 0, 0)), (296, (.aload_n 0, 1), (0, 0, 0)), (297, (.iconst 0, 1), (0, 0, 0)), (298, (.putfield 59, 3), (11, 10, 20)), (301, (.aload_n 0, 1), (0, 0, 0)), (302, (.aload_n 0, 1), (0, 0, 0)), (303, (.getfield 20, 3), (11, 7, 14)), (306, (.putfield 17, 3), (11, 8, 16)), (309, (.aload_n 0, 1), (0, 0, 0)), (310, (.aload_n 0, 1), (0, 0, 0)), (311, (.getfield 17, 3), (11, 8, 16)), (314, (.invokevirtual 23, 3), (136, 2, 0)), (317, (.invokestatic 34, 3), (138, 6, 0)), (320, (.ifCond .eq 53, 3), (0, 0, 0)), (323, (.aload_n 0, 1), (0, 0, 0)), (324, (.getfield 17, 3), (11, 8, 16)), (327, (.aload_n 0, 1), (0, 0, 0)), (328, (.getfield 20, 3), (11, 7, 14)), (331, (.isub, 1), (0, 0, 0)), (332, (.bipush 9, 2), (0, 0, 0)), (334, (.if_icmp .ge 26, 3), (0, 0, 0)), (337, (.aload_n 0, 1), (0, 0, 0)), (338, (.bipush 10, 2), (0, 0, 0)), (340, (.aload_n 0, 1), (0, 0, 0)), (341, (.getfield 59, 3), (11, 10, 20)), (344, (.imul, 1), (0, 0, 0)), (345, (.aload_n 0, 1), (0, 0, 0)), (346, (.aload_n 0, 1), (0, 0, 0)), (347, (.getfield 17, 3), (11, 8, 16)), (350, (.invokevirtual 23, 3), (136, 2, 0)), (353, (.iadd, 1), (0, 0, 0)), (354, (.bipush 48, 2), (0, 0, 0)), (356, (.isub, 1), (0, 0, 0)), (357, (.putfield 59, 3), (11, 10, 20)), (360, (.aload_n 0, 1), (0, 0, 0)), (361, (.dup, 1), (0, 0, 0)), (362, (.getfield 17, 3), (11, 8, 16)), (365, (.iconst 1, 1), (0, 0, 0)), (366, (.iadd, 1), (0, 0, 0)), (367, (.putfield 17, 3), (11, 8, 16)), (370, (.goto (-61), 3), (0, 0, 0)), (373, (.aload_n 0, 1), (0, 0, 0)), (374, (.aload_n 0, 1), (0, 0, 0)), (375, (.getfield 17, 3), (11, 8, 16)), (378, (.aload_n 0, 1), (0, 0, 0)), (379, (.getfield 20, 3), (11, 7, 14)), (382, (.isub, 1), (0, 0, 0)), (383, (.putfield 62, 3), (11, 11, 22)), (386, (.aload_n 0, 1), (0, 0, 0)), (387, (.aload_n 0, 1), (0, 0, 0)), (388, (.getfield 62, 3), (11, 11, 22)), (391, (.bipush 9, 2), (0, 0, 0)), (393, (.if_icmp .gt 17, 3), (0, 0, 0)), (396, (.aload_n 0, 1), (0, 0, 0)), (397, (.aload_n 0, 1), (0, 0, 0)), (398, (.getfield 17, 3), (11, 8, 16)), (401, (.invokevirtual 23, 3), (136, 2, 0)), (404, (.invokestatic 30, 3), (137, 4, 0)), (407, (.ifCond .eq 7, 3), (0, 0, 0)), (410, (.iconst 1, 1), (0, 0, 0)), (411, (.goto 4, 3), (0, 0, 0)), (414, (.iconst 4, 1), (0, 0, 0)), (415, (.putfield 27, 3), (11, 9, 18)), (418, (.goto 133, 3), (0, 0, 0)), (421, (.iload_n 1, 1), (0, 0, 0)), (422, (.bipush 34, 2), (0, 0, 0)), (424, (.if_icmp .ne 10, 3), (0, 0, 0)), (427, (.aload_n 0, 1), (0, 0, 0)), (428, (.invokevirtual 65, 3), (143, 10, 0)), (431, (.goto 120, 3), (0, 0, 0)), (434, (.iload_n 1, 1), (0, 0, 0)), (435, (.bipush 95, 2), (0, 0, 0)), (437, (.if_icmp .ne 44, 3), (0, 0, 0)), (440, (.aload_n 0, 1), (0, 0, 0)), (441, (.aload_n 0, 1), (0, 0, 0)), (442, (.aload_n 0, 1), (0, 0, 0)), (443, (.getfield 17, 3), (11, 8, 16)), (446, (.invokevirtual 23, 3), (136, 2, 0)), (449, (.invokestatic 30, 3), (137, 4, 0)), (452, (.ifCond .ne 17, 3), (0, 0, 0)), (455, (.aload_n 0, 1), (0, 0, 0)), (456, (.aload_n 0, 1), (0, 0, 0)), (457, (.getfield 17, 3), (11, 8, 16)), (460, (.invokevirtual 23, 3), (136, 2, 0)), (463, (.invokestatic 34, 3), (138, 6, 0)), (466, (.ifCond .eq 7, 3), (0, 0, 0)), (469, (.iconst 1, 1), (0, 0, 0)), (470, (.goto 5, 3), (0, 0, 0)), (473, (.bipush 6, 2), (0, 0, 0)), (475, (.putfield 27, 3), (11, 9, 18)), (478, (.goto 73, 3), (0, 0, 0)), (481, (.aload_n 0, 1), (0, 0, 0)), (482, (.iload_n 1, 1), (0, 0, 0)), (483, (.bipush 59, 2), (0, 0, 0)), (485, (.if_icmp .eq 57, 3), (0, 0, 0)), (488, (.iload_n 1, 1), (0, 0, 0)), (489, (.bipush 58, 2), (0, 0, 0)), (491, (.if_icmp .eq 51, 3), (0, 0, 0)), (494, (.iload_n 1, 1), (0, 0, 0)), (495, (.bipush 61, 2), (0, 0, 0)), (497, (.if_icmp .eq 45, 3), (0, 0, 0)), (500, (.iload_n 1, 1), (0, 0, 0)), (501, (.bipush 64, 2), (0, 0, 0)), (503, (.if_icmp .eq 39, 3), (0, 0, 0)), (506, (.iload_n 1, 1), (0, 0, 0)), (507, (.bipush 43, 2), (0, 0, 0)), (509, (.if_icmp .eq 33, 3), (0, 0, 0)), (512, (.iload_n 1, 1), (0, 0, 0)), (513, (.bipush 45, 2), (0, 0, 0)), (515, (.if_icmp .eq 27, 3), (0, 0, 0)), (518, (.iload_n 1, 1), (0, 0, 0)), (519, (.bipush 42, 2), (0, 0, 0)), (521, (.if_icmp .eq 21, 3), (0, 0, 0)), (524, (.iload_n 1, 1), (0, 0, 0)), (525, (.bipush 47, 2), (0, 0, 0)), (527, (.if_icmp .eq 15, 3), (0, 0, 0)), (530, (.iload_n 1, 1), (0, 0, 0)), (531, (.bipush 37, 2), (0, 0, 0)), (533, (.if_icmp .eq 9, 3), (0, 0, 0)), (536, (.iload_n 1, 1), (0, 0, 0)), (537, (.bipush 60, 2), (0, 0, 0)), (539, (.if_icmp .ne 8, 3), (0, 0, 0)), (542, (.bipush 6, 2), (0, 0, 0)), (544, (.goto 4, 3), (0, 0, 0)), (547, (.iconst 1, 1), (0, 0, 0)), (548, (.putfield 27, 3), (11, 9, 18)), (551, (.return_, 1), (0, 0, 0))]
/-- MixfixBenchModel.pack -/
def X_c142 : List (Nat × (Jvm.ClassFile.Instr × Nat) × (Nat × Nat × Nat)) := [(0, (.aload_n 0, 1), (0, 0, 0)), (1, (.lconst 0, 1), (0, 0, 0)), (2, (.putfield 41, 3), (11, 12, 24)), (5, (.iload_n 1, 1), (0, 0, 0)), (6, (.istore_n 3, 1), (0, 0, 0)), (7, (.iload_n 3, 1), (0, 0, 0)), (8, (.iload_n 2, 1), (0, 0, 0)), (9, (.if_icmp .ge 35, 3), (0, 0, 0)), (12, (.iload_n 3, 1), (0, 0, 0)), (13, (.iload_n 1, 1), (0, 0, 0)), (14, (.bipush 8, 2), (0, 0, 0)), (16, (.iadd, 1), (0, 0, 0)), (17, (.if_icmp .ge 27, 3), (0, 0, 0)), (20, (.aload_n 0, 1), (0, 0, 0)), (21, (.aload_n 0, 1), (0, 0, 0)), (22, (.getfield 41, 3), (11, 12, 24)), (25, (.bipush 8, 2), (0, 0, 0)), (27, (.lshl, 1), (0, 0, 0)), (28, (.aload_n 0, 1), (0, 0, 0)), (29, (.iload_n 3, 1), (0, 0, 0)), (30, (.invokevirtual 23, 3), (136, 2, 0)), (33, (.i2l, 1), (0, 0, 0)), (34, (.lor, 1), (0, 0, 0)), (35, (.putfield 41, 3), (11, 12, 24)), (38, (.iinc 3 1, 3), (0, 0, 0)), (41, (.goto (-34), 3), (0, 0, 0)), (44, (.return_, 1), (0, 0, 0))]
/-- MixfixBenchModel.nextPart -/
def X_c143 : List (Nat × (Jvm.ClassFile.Instr × Nat) × (Nat × Nat × Nat)) := [(0, (.iconst 0, 1), (0, 0, 0)), (1, (.istore_n 1, 1), (0, 0, 0)), (2, (.aload_n 0, 1), (0, 0, 0)), (3, (.getfield 17, 3), (11, 8, 16)), (6, (.aload_n 0, 1), (0, 0, 0)), (7, (.getfield 1, 3), (11, 3, 6)), (10, (.if_icmp .ge 54, 3), (0, 0, 0)), (13, (.aload_n 0, 1), (0, 0, 0)), (14, (.aload_n 0, 1), (0, 0, 0)), (15, (.getfield 17, 3), (11, 8, 16)), (18, (.invokevirtual 23, 3), (136, 2, 0)), (21, (.invokestatic 69, 3), (144, 12, 0)), (24, (.ifCond .eq 40, 3), (0, 0, 0)), (27, (.iload_n 1, 1), (0, 0, 0)), (28, (.ifCond .ne 17, 3), (0, 0, 0)), (31, (.aload_n 0, 1), (0, 0, 0)), (32, (.aload_n 0, 1), (0, 0, 0)), (33, (.getfield 17, 3), (11, 8, 16)), (36, (.invokevirtual 23, 3), (136, 2, 0)), (39, (.invokestatic 34, 3), (138, 6, 0)), (42, (.ifCond .ne 7, 3), (0, 0, 0)), (45, (.iconst 1, 1), (0, 0, 0)), (46, (.goto 4, 3), (0, 0, 0)), (49, (.iconst 0, 1), (0, 0, 0)), (50, (.istore_n 1, 1), (0, 0, 0)), (51, (.aload_n 0, 1), (0, 0, 0)), (52, (.dup, 1), (0, 0, 0)), (53, (.getfield 17, 3), (11, 8, 16)), (56, (.iconst 1, 1), (0, 0, 0)), (57, (.iadd, 1), (0, 0, 0)), (58, (.putfield 17, 3), (11, 8, 16)), (61, (.goto (-59), 3), (0, 0, 0)), (64, (.aload_n 0, 1), (0, 0, 0)), (65, (.getfield 17, 3), (11, 8, 16)), (68, (.aload_n 0, 1), (0, 0, 0)), (69, (.getfield 20, 3), (11, 7, 14)), (72, (.isub, 1), (0, 0, 0)), (73, (.iconst 1, 1), (0, 0, 0)), (74, (.isub, 1), (0, 0, 0)), (75, (.istore_n 2, 1), (0, 0, 0)), (76, (.aload_n 0, 1), (0, 0, 0)), (77, (.aload_n 0, 1), (0, 0, 0)), (78, (.aload_n 0, 1), (0, 0, 0)), (79, (.getfield 17, 3), (11, 8, 16)), (82, (.invokevirtual 23, 3), (136, 2, 0)), (85, (.bipush 34, 2), (0, 0, 0)), (87, (.if_icmp .ne 21, 3), (0, 0, 0)), (90, (.iload_n 2, 1), (0, 0, 0)), (91, (.ifCond .le 17, 3), (0, 0, 0)), (94, (.iload_n 2, 1), (0, 0, 0)), (95, (.bipush 9, 2), (0, 0, 0)), (97, (.if_icmp .ge 11, 3), (0, 0, 0)), (100, (.iload_n 1, 1), (0, 0, 0)), (101, (.ifCond .eq 7, 3), (0, 0, 0)), (104, (.iconst 5, 1), (0, 0, 0)), (105, (.goto 4, 3), (0, 0, 0)), (108, (.iconst 1, 1), (0, 0, 0)), (109, (.putfield 27, 3), (11, 9, 18)), (112, (.aload_n 0, 1), (0, 0, 0)), (113, (.aload_n 0, 1), (0, 0, 0)), (114, (.getfield 20, 3), (11, 7, 14)), (117, (.iconst 1, 1), (0, 0, 0)), (118, (.iadd, 1), (0, 0, 0)), (119, (.aload_n 0, 1), (0, 0, 0)), (120, (.getfield 17, 3), (11, 8, 16)), (123, (.invokevirtual 37, 3), (142, 8, 0)), (126, (.aload_n 0, 1), (0, 0, 0)), (127, (.dup, 1), (0, 0, 0)), (128, (.getfield 17, 3), (11, 8, 16)), (131, (.iconst 1, 1), (0, 0, 0)), (132, (.iadd, 1), (0, 0, 0)), (133, (.putfield 17, 3), (11, 8, 16)), (136, (.return_, 1), (0, 0, 0))]
/-- MixfixBenchModel.isPartSign -/
def X_c144 : List (Nat × (Jvm.ClassFile.Instr × Nat) × (Nat × Nat × Nat)) := [(0, (.iload_n 0, 1), (0, 0, 0)), (1, (.bipush 33, 2), (0, 0, 0)), (3, (.if_icmp .lt 31, 3), (0, 0, 0)), (6, (.iload_n 0, 1), (0, 0, 0)), (7, (.bipush 126, 2), (0, 0, 0)), (9, (.if_icmp .gt 25, 3), (0, 0, 0)), (12, (.iload_n 0, 1), (0, 0, 0)), (13, (.bipush 34, 2), (0, 0, 0)), (15, (.if_icmp .eq 19, 3), (0, 0, 0)), (18, (.iload_n 0, 1), (0, 0, 0)), (19, (.bipush 40, 2), (0, 0, 0)), (21, (.if_icmp .eq 13, 3), (0, 0, 0)), (24, (.iload_n 0, 1), (0, 0, 0)), (25, (.bipush 41, 2), (0, 0, 0)), (27, (.if_icmp .eq 7, 3), (0, 0, 0)), (30, (.iconst 1, 1), (0, 0, 0)), (31, (.goto 4, 3), (0, 0, 0)), (34, (.iconst 0, 1), (0, 0, 0)), (35, (.ireturn, 1), (0, 0, 0))]
/-- MixfixBenchModel.is -/
def X_c145 : List (Nat × (Jvm.ClassFile.Instr × Nat) × (Nat × Nat × Nat)) := [(0, (.aload_n 0, 1), (0, 0, 0)), (1, (.getfield 27, 3), (11, 9, 18)), (4, (.bipush 6, 2), (0, 0, 0)), (6, (.if_icmp .ne 19, 3), (0, 0, 0)), (9, (.aload_n 0, 1), (0, 0, 0)), (10, (.aload_n 0, 1), (0, 0, 0)), (11, (.getfield 20, 3), (11, 7, 14)), (14, (.invokevirtual 23, 3), (136, 2, 0)), (17, (.iload_n 1, 1), (0, 0, 0)), (18, (.if_icmp .ne 7, 3), (0, 0, 0)), (21, (.iconst 1, 1), (0, 0, 0)), (22, (.goto 4, 3), (0, 0, 0)), (25, (.iconst 0, 1), (0, 0, 0)), (26, (.ireturn, 1), (0, 0, 0))]
/-- MixfixBenchModel.isWord -/
def X_c146 : List (Nat × (Jvm.ClassFile.Instr × Nat) × (Nat × Nat × Nat)) := [(0, (.aload_n 0, 1), (0, 0, 0)), (1, (.getfield 27, 3), (11, 9, 18)), (4, (.iconst 3, 1), (0, 0, 0)), (5, (.if_icmp .ne 16, 3), (0, 0, 0)), (8, (.aload_n 0, 1), (0, 0, 0)), (9, (.getfield 41, 3), (11, 12, 24)), (12, (.lload_n 1, 1), (0, 0, 0)), (13, (.lcmp, 1), (0, 0, 0)), (14, (.ifCond .ne 7, 3), (0, 0, 0)), (17, (.iconst 1, 1), (0, 0, 0)), (18, (.goto 4, 3), (0, 0, 0)), (21, (.iconst 0, 1), (0, 0, 0)), (22, (.ireturn, 1), (0, 0, 0))]
/-- MixfixBenchModel.wrong -/
def X_c147 : List (Nat × (Jvm.ClassFile.Instr × Nat) × (Nat × Nat × Nat)) := [(0, (.aload_n 0, 1), (0, 0, 0)), (1, (.aload_n 0, 1), (0, 0, 0)), (2, (.getfield 27, 3), (11, 9, 18)), (5, (.iconst 1, 1), (0, 0, 0)), (6, (.if_icmp .ne 7, 3), (0, 0, 0)), (9, (.iconst 1, 1), (0, 0, 0)), (10, (.goto 4, 3), (0, 0, 0)), (13, (.iconst 2, 1), (0, 0, 0)), (14, (.aload_n 0, 1), (0, 0, 0)), (15, (.getfield 20, 3), (11, 7, 14)), (18, (.invokevirtual 72, 3), (139, 18, 0)), (21, (.return_, 1), (0, 0, 0))]
/-- MixfixBenchModel.must -/
def X_c148 : List (Nat × (Jvm.ClassFile.Instr × Nat) × (Nat × Nat × Nat)) := [(0, (.aload_n 0, 1), (0, 0, 0)), (1, (.iload_n 1, 1), (0, 0, 0)), (2, (.invokevirtual 75, 3), (145, 26, 0)), (5, (.ifCond .eq 10, 3), (0, 0, 0)), (8, (.aload_n 0, 1), (0, 0, 0)), (9, (.invokevirtual 78, 3), (141, 0, 0)), (12, (.goto 7, 3), (0, 0, 0)), (15, (.aload_n 0, 1), (0, 0, 0)), (16, (.invokevirtual 81, 3), (147, 16, 0)), (19, (.return_, 1), (0, 0, 0))]
/-- MixfixBenchModel.rankOf -/
def X_c149 : List (Nat × (Jvm.ClassFile.Instr × Nat) × (Nat × Nat × Nat)) := [(0, (.iconst 0, 1), (0, 0, 0)), (1, (.istore_n 3, 1), (0, 0, 0)), (2, (.iload_n 3, 1), (0, 0, 0)), (3, (.aload_n 0, 1), (0, 0, 0)), (4, (.getfield 84, 3), (11, 28, 56)), (7, (.if_icmp .ge 30, 3), (0, 0, 0)), (10, (.aload_n 0, 1), (0, 0, 0)), (11, (.getfield 87, 3), (11, 13, 26)), (14, (.bipush 12, 2), (0, 0, 0)), (16, (.aload_n 0, 1), (0, 0, 0)), (17, (.getfield 91, 3), (11, 4, 8)), (20, (.imul, 1), (0, 0, 0)), (21, (.iload_n 3, 1), (0, 0, 0)), (22, (.iadd, 1), (0, 0, 0)), (23, (.laload, 1), (0, 0, 0)), (24, (.lload_n 1, 1), (0, 0, 0)), (25, (.lcmp, 1), (0, 0, 0)), (26, (.ifCond .ne 5, 3), (0, 0, 0)), (29, (.iload_n 3, 1), (0, 0, 0)), (30, (.ireturn, 1), (0, 0, 0)), (31, (.iinc 3 1, 3), (0, 0, 0)), (34, (.goto (-32), 3), (0, 0, 0)), (37, (.iconst (-1), 1), (0, 0, 0)), (38, (.ireturn, 1), (0, 0, 0))]
/-- MixfixBenchModel.kindOf -/
def X_c150 : List (Nat × (Jvm.ClassFile.Instr × Nat) × (Nat × Nat × Nat)) := [(0, (.iconst 0, 1), (0, 0, 0)), (1, (.istore_n 3, 1), (0, 0, 0)), (2, (.iload_n 3, 1), (0, 0, 0)), (3, (.aload_n 0, 1), (0, 0, 0)), (4, (.getfield 94, 3), (11, 29, 58)), (7, (.if_icmp .ge 30, 3), (0, 0, 0)), (10, (.aload_n 0, 1), (0, 0, 0)), (11, (.getfield 97, 3), (11, 14, 28)), (14, (.bipush 11, 2), (0, 0, 0)), (16, (.aload_n 0, 1), (0, 0, 0)), (17, (.getfield 91, 3), (11, 4, 8)), (20, (.imul, 1), (0, 0, 0)), (21, (.iload_n 3, 1), (0, 0, 0)), (22, (.iadd, 1), (0, 0, 0)), (23, (.laload, 1), (0, 0, 0)), (24, (.lload_n 1, 1), (0, 0, 0)), (25, (.lcmp, 1), (0, 0, 0)), (26, (.ifCond .ne 5, 3), (0, 0, 0)), (29, (.iload_n 3, 1), (0, 0, 0)), (30, (.ireturn, 1), (0, 0, 0)), (31, (.iinc 3 1, 3), (0, 0, 0)), (34, (.goto (-32), 3), (0, 0, 0)), (37, (.iconst (-1), 1), (0, 0, 0)), (38, (.ireturn, 1), (0, 0, 0))]
/-- MixfixBenchModel.aRank -/
def X_c151 : List (Nat × (Jvm.ClassFile.Instr × Nat) × (Nat × Nat × Nat)) := [(0, (.aload_n 0, 1), (0, 0, 0)), (1, (.getfield 27, 3), (11, 9, 18)), (4, (.iconst 2, 1), (0, 0, 0)), (5, (.if_icmp .eq 7, 3), (0, 0, 0)), (8, (.aload_n 0, 1), (0, 0, 0)), (9, (.invokevirtual 81, 3), (147, 16, 0)), (12, (.aload_n 0, 1), (0, 0, 0)), (13, (.invokevirtual 100, 3), (140, 14, 0)), (16, (.ifCond .eq 14, 3), (0, 0, 0)), (19, (.aload_n 0, 1), (0, 0, 0)), (20, (.aload_n 0, 1), (0, 0, 0)), (21, (.getfield 41, 3), (11, 12, 24)), (24, (.invokevirtual 104, 3), (149, 22, 0)), (27, (.goto 4, 3), (0, 0, 0)), (30, (.iconst 0, 1), (0, 0, 0)), (31, (.istore_n 1, 1), (0, 0, 0)), (32, (.aload_n 0, 1), (0, 0, 0)), (33, (.invokevirtual 100, 3), (140, 14, 0)), (36, (.ifCond .eq 16, 3), (0, 0, 0)), (39, (.iload_n 1, 1), (0, 0, 0)), (40, (.ifCond .ge 12, 3), (0, 0, 0)), (43, (.aload_n 0, 1), (0, 0, 0)), (44, (.iconst 3, 1), (0, 0, 0)), (45, (.aload_n 0, 1), (0, 0, 0)), (46, (.getfield 20, 3), (11, 7, 14)), (49, (.invokevirtual 72, 3), (139, 18, 0)), (52, (.aload_n 0, 1), (0, 0, 0)), (53, (.invokevirtual 100, 3), (140, 14, 0)), (56, (.ifCond .eq 7, 3), (0, 0, 0)), (59, (.aload_n 0, 1), (0, 0, 0)), (60, (.invokevirtual 78, 3), (141, 0, 0)), (63, (.iload_n 1, 1), (0, 0, 0)), (64, (.ireturn, 1), (0, 0, 0))]
/-- MixfixBenchModel.aKind -/
def X_c152 : List (Nat × (Jvm.ClassFile.Instr × Nat) × (Nat × Nat × Nat)) := [(0, (.aload_n 0, 1), (0, 0, 0)), (1, (.getfield 27, 3), (11, 9, 18)), (4, (.iconst 2, 1), (0, 0, 0)), (5, (.if_icmp .eq 7, 3), (0, 0, 0)), (8, (.aload_n 0, 1), (0, 0, 0)), (9, (.invokevirtual 81, 3), (147, 16, 0)), (12, (.aload_n 0, 1), (0, 0, 0)), (13, (.invokevirtual 100, 3), (140, 14, 0)), (16, (.ifCond .eq 14, 3), (0, 0, 0)), (19, (.aload_n 0, 1), (0, 0, 0)), (20, (.aload_n 0, 1), (0, 0, 0)), (21, (.getfield 41, 3), (11, 12, 24)), (24, (.invokevirtual 108, 3), (150, 36, 0)), (27, (.goto 4, 3), (0, 0, 0)), (30, (.iconst 0, 1), (0, 0, 0)), (31, (.istore_n 1, 1), (0, 0, 0)), (32, (.aload_n 0, 1), (0, 0, 0)), (33, (.invokevirtual 100, 3), (140, 14, 0)), (36, (.ifCond .eq 16, 3), (0, 0, 0)), (39, (.iload_n 1, 1), (0, 0, 0)), (40, (.ifCond .ge 12, 3), (0, 0, 0)), (43, (.aload_n 0, 1), (0, 0, 0)), (44, (.iconst 3, 1), (0, 0, 0)), (45, (.aload_n 0, 1), (0, 0, 0)), (46, (.getfield 20, 3), (11, 7, 14)), (49, (.invokevirtual 72, 3), (139, 18, 0)), (52, (.aload_n 0, 1), (0, 0, 0)), (53, (.invokevirtual 100, 3), (140, 14, 0)), (56, (.ifCond .eq 7, 3), (0, 0, 0)), (59, (.aload_n 0, 1), (0, 0, 0)), (60, (.invokevirtual 78, 3), (141, 0, 0)), (63, (.iload_n 1, 1), (0, 0, 0)), (64, (.ireturn, 1), (0, 0, 0))]
/-- MixfixBenchModel.readRank -/
def X_c153 : List (Nat × (Jvm.ClassFile.Instr × Nat) × (Nat × Nat × Nat)) := [(0, (.aload_n 0, 1), (0, 0, 0)), (1, (.getfield 27, 3), (11, 9, 18)), (4, (.iconst 2, 1), (0, 0, 0)), (5, (.if_icmp .eq 7, 3), (0, 0, 0)), (8, (.aload_n 0, 1), (0, 0, 0)), (9, (.invokevirtual 81, 3), (147, 16, 0)), (12, (.aload_n 0, 1), (0, 0, 0)), (13, (.invokevirtual 100, 3), (140, 14, 0)), (16, (.ifCond .eq 23, 3), (0, 0, 0)), (19, (.aload_n 0, 1), (0, 0, 0)), (20, (.aload_n 0, 1), (0, 0, 0)), (21, (.getfield 41, 3), (11, 12, 24)), (24, (.invokevirtual 104, 3), (149, 22, 0)), (27, (.ifCond .lt 12, 3), (0, 0, 0)), (30, (.aload_n 0, 1), (0, 0, 0)), (31, (.iconst 3, 1), (0, 0, 0)), (32, (.aload_n 0, 1), (0, 0, 0)), (33, (.getfield 20, 3), (11, 7, 14)), (36, (.invokevirtual 72, 3), (139, 18, 0)), (39, (.aload_n 0, 1), (0, 0, 0)), (40, (.invokevirtual 100, 3), (140, 14, 0)), (43, (.ifCond .ne 4, 3), (0, 0, 0)), (46, (.return_, 1), (0, 0, 0)), (47, (.aload_n 0, 1), (0, 0, 0)), (48, (.getfield 87, 3), (11, 13, 26)), (51, (.bipush 12, 2), (0, 0, 0)), (53, (.aload_n 0, 1), (0, 0, 0)), (54, (.getfield 91, 3), (11, 4, 8)), (57, (.imul, 1), (0, 0, 0)), (58, (.aload_n 0, 1), (0, 0, 0)), (59, (.getfield 84, 3), (11, 28, 56)), (62, (.iadd, 1), (0, 0, 0)), (63, (.aload_n 0, 1), (0, 0, 0)), (64, (.getfield 41, 3), (11, 12, 24)), (67, (.lastore, 1), (0, 0, 0)), (68, (.iconst 0, 1), (0, 0, 0)), (69, (.istore_n 1, 1), (0, 0, 0)), (70, (.iload_n 1, 1), (0, 0, 0)), (71, (.bipush 12, 2), (0, 0, 0)), (73, (.if_icmp .ge 57, 3), (0, 0, 0)), (76, (.aload_n 0, 1), (0, 0, 0)), (77, (.getfield 111, 3), (11, 15, 30)), (80, (.sipush 144, 3), (0, 0, 0)), (83, (.aload_n 0, 1), (0, 0, 0)), (84, (.getfield 91, 3), (11, 4, 8)), (87, (.imul, 1), (0, 0, 0)), (88, (.bipush 12, 2), (0, 0, 0)), (90, (.aload_n 0, 1), (0, 0, 0)), (91, (.getfield 84, 3), (11, 28, 56)), (94, (.imul, 1), (0, 0, 0)), (95, (.iadd, 1), (0, 0, 0)), (96, (.iload_n 1, 1), (0, 0, 0)), (97, (.iadd, 1), (0, 0, 0)), (98, (.iconst 0, 1), (0, 0, 0)), (99, (.bastore, 1), (0, 0, 0)), (100, (.aload_n 0, 1), (0, 0, 0)), (101, (.getfield 111, 3), (11, 15, 30)), (104, (.sipush 144, 3), (0, 0, 0)), (107, (.aload_n 0, 1), (0, 0, 0)), (108, (.getfield 91, 3), (11, 4, 8)), (111, (.imul, 1), (0, 0, 0)), (112, (.bipush 12, 2), (0, 0, 0)), (114, (.iload_n 1, 1), (0, 0, 0)), (115, (.imul, 1), (0, 0, 0)), (116, (.iadd, 1), (0, 0, 0)), (117, (.aload_n 0, 1), (0, 0, 0)), (118, (.getfield 84, 3), (11, 28, 56)), (121, (.iadd, 1), (0, 0, 0)), (122, (.iconst 0, 1), (0, 0, 0)), (123, (.bastore, 1), (0, 0, 0)), (124, (.iinc 1 1, 3), (0, 0, 0)), (127, (.goto (-57), 3), (0, 0, 0)), (130, (.aload_n 0, 1), (0, 0, 0)), (131, (.dup, 1), (0, 0, 0)), (132, (.getfield 84, 3), (11, 28, 56)), (135, (.iconst 1, 1), (0, 0, 0)), (136, (.iadd, 1), (0, 0, 0)), (137, (.putfield 84, 3), (11, 28, 56)), (140, (.aload_n 0, 1), (0, 0, 0)), (141, (.invokevirtual 78, 3), (141, 0, 0)), (144, (.aload_n 0, 1), (0, 0, 0)), (145, (.bipush 59, 2), (0, 0, 0)), (147, (.invokevirtual 115, 3), (148, 24, 0)), (150, (.return_, 1), (0, 0, 0))]
/-- MixfixBenchModel.tight -/
def X_c154 : List (Nat × (Jvm.ClassFile.Instr × Nat) × (Nat × Nat × Nat)) := [(0, (.aload_n 0, 1), (0, 0, 0)), (1, (.getfield 111, 3), (11, 15, 30)), (4, (.sipush 144, 3), (0, 0, 0)), (7, (.aload_n 0, 1), (0, 0, 0)), (8, (.getfield 91, 3), (11, 4, 8)), (11, (.imul, 1), (0, 0, 0)), (12, (.bipush 12, 2), (0, 0, 0)), (14, (.iload_n 1, 1), (0, 0, 0)), (15, (.imul, 1), (0, 0, 0)), (16, (.iadd, 1), (0, 0, 0)), (17, (.iload_n 2, 1), (0, 0, 0)), (18, (.iadd, 1), (0, 0, 0)), (19, (.baload, 1), (0, 0, 0)), (20, (.ireturn, 1), (0, 0, 0))]
/-- MixfixBenchModel.readTighter -/
def X_c155 : List (Nat × (Jvm.ClassFile.Instr × Nat) × (Nat × Nat × Nat)) := [(0, (.aload_n 0, 1), (0, 0, 0)), (1, (.invokevirtual 119, 3), (151, 30, 0)), (4, (.istore_n 1, 1), (0, 0, 0)), (5, (.aload_n 0, 1), (0, 0, 0)), (6, (.getfield 20, 3), (11, 7, 14)), (9, (.istore_n 2, 1), (0, 0, 0)), (10, (.aload_n 0, 1), (0, 0, 0)), (11, (.invokevirtual 100, 3), (140, 14, 0)), (14, (.ifCond .eq 10, 3), (0, 0, 0)), (17, (.aload_n 0, 1), (0, 0, 0)), (18, (.invokevirtual 119, 3), (151, 30, 0)), (21, (.goto 4, 3), (0, 0, 0)), (24, (.iconst 0, 1), (0, 0, 0)), (25, (.istore_n 3, 1), (0, 0, 0)), (26, (.aload_n 0, 1), (0, 0, 0)), (27, (.invokevirtual 100, 3), (140, 14, 0)), (30, (.ifCond .eq 23, 3), (0, 0, 0)), (33, (.iload_n 1, 1), (0, 0, 0)), (34, (.iload_n 3, 1), (0, 0, 0)), (35, (.if_icmp .eq 12, 3), (0, 0, 0)), (38, (.aload_n 0, 1), (0, 0, 0)), (39, (.iload_n 3, 1), (0, 0, 0)), (40, (.iload_n 1, 1), (0, 0, 0)), (41, (.invokevirtual 123, 3), (154, 32, 0)), (44, (.ifCond .eq 9, 3), (0, 0, 0)), (47, (.aload_n 0, 1), (0, 0, 0)), (48, (.iconst 4, 1), (0, 0, 0)), (49, (.iload_n 2, 1), (0, 0, 0)), (50, (.invokevirtual 72, 3), (139, 18, 0)), (53, (.aload_n 0, 1), (0, 0, 0)), (54, (.invokevirtual 100, 3), (140, 14, 0)), (57, (.ifCond .eq 94, 3), (0, 0, 0)), (60, (.iconst 0, 1), (0, 0, 0)), (61, (.istore 4, 2), (0, 0, 0)), (63, (.iload 4, 2), (0, 0, 0)), (65, (.aload_n 0, 1), (0, 0, 0)), (66, (.getfield 84, 3), (11, 28, 56)), (69, (.if_icmp .ge 82, 3), (0, 0, 0)), (72, (.iconst 0, 1), (0, 0, 0)), (73, (.istore 5, 2), (0, 0, 0)), (75, (.iload 5, 2), (0, 0, 0)), (77, (.aload_n 0, 1), (0, 0, 0)), (78, (.getfield 84, 3), (11, 28, 56)), (81, (.if_icmp .ge 64, 3), (0, 0, 0)), (84, (.iload 4, 2), (0, 0, 0)), (86, (.iload_n 1, 1), (0, 0, 0)), (87, (.if_icmp .eq 13, 3), (0, 0, 0)), (90, (.aload_n 0, 1), (0, 0, 0)), (91, (.iload 4, 2), (0, 0, 0)), (93, (.iload_n 1, 1), (0, 0, 0)), (94, (.invokevirtual 123, 3), (154, 32, 0)), (97, (.ifCond .eq 42, 3), (0, 0, 0)), (100, (.iload 5, 2), (0, 0, 0)), (102, (.iload_n 3, 1), (0, 0, 0)), (103, (.if_icmp .eq 13, 3), (0, 0, 0)), (106, (.aload_n 0, 1), (0, 0, 0)), (107, (.iload_n 3, 1), (0, 0, 0)), (108, (.iload 5, 2), (0, 0, 0)), (110, (.invokevirtual 123, 3), (154, 32, 0)), (113, (.ifCond .eq 26, 3), (0, 0, 0)), (116, (.aload_n 0, 1), (0, 0, 0)), (117, (.getfield 111, 3), (11, 15, 30)), (120, (.sipush 144, 3), (0, 0, 0)), (123, (.aload_n 0, 1), (0, 0, 0)), (124, (.getfield 91, 3), (11, 4, 8)), (127, (.imul, 1), (0, 0, 0)), (128, (.bipush 12, 2), (0, 0, 0)), (130, (.iload 4, 2), (0, 0, 0)), (132, (.imul, 1), (0, 0, 0)), (133, (.iadd, 1), (0, 0, 0)), (134, (.iload 5, 2), (0, 0, 0)), (136, (.iadd, 1), (0, 0, 0)), (137, (.iconst 1, 1), (0, 0, 0)), (138, (.bastore, 1), (0, 0, 0)), (139, (.iinc 5 1, 3), (0, 0, 0)), (142, (.goto (-67), 3), (0, 0, 0)), (145, (.iinc 4 1, 3), (0, 0, 0)), (148, (.goto (-85), 3), (0, 0, 0)), (151, (.aload_n 0, 1), (0, 0, 0)), (152, (.invokevirtual 100, 3), (140, 14, 0)), (155, (.ifCond .eq 9, 3), (0, 0, 0)), (158, (.aload_n 0, 1), (0, 0, 0)), (159, (.bipush 59, 2), (0, 0, 0)), (161, (.invokevirtual 115, 3), (148, 24, 0)), (164, (.return_, 1), (0, 0, 0))]
/-- MixfixBenchModel.readKind -/
def X_c156 : List (Nat × (Jvm.ClassFile.Instr × Nat) × (Nat × Nat × Nat)) := [(0, (.aload_n 0, 1), (0, 0, 0)), (1, (.getfield 27, 3), (11, 9, 18)), (4, (.iconst 2, 1), (0, 0, 0)), (5, (.if_icmp .eq 7, 3), (0, 0, 0)), (8, (.aload_n 0, 1), (0, 0, 0)), (9, (.invokevirtual 81, 3), (147, 16, 0)), (12, (.aload_n 0, 1), (0, 0, 0)), (13, (.invokevirtual 100, 3), (140, 14, 0)), (16, (.ifCond .eq 23, 3), (0, 0, 0)), (19, (.aload_n 0, 1), (0, 0, 0)), (20, (.aload_n 0, 1), (0, 0, 0)), (21, (.getfield 41, 3), (11, 12, 24)), (24, (.invokevirtual 108, 3), (150, 36, 0)), (27, (.ifCond .lt 12, 3), (0, 0, 0)), (30, (.aload_n 0, 1), (0, 0, 0)), (31, (.iconst 3, 1), (0, 0, 0)), (32, (.aload_n 0, 1), (0, 0, 0)), (33, (.getfield 20, 3), (11, 7, 14)), (36, (.invokevirtual 72, 3), (139, 18, 0)), (39, (.aload_n 0, 1), (0, 0, 0)), (40, (.invokevirtual 100, 3), (140, 14, 0)), (43, (.ifCond .ne 4, 3), (0, 0, 0)), (46, (.return_, 1), (0, 0, 0)), (47, (.aload_n 0, 1), (0, 0, 0)), (48, (.getfield 41, 3), (11, 12, 24)), (51, (.lstore_n 1, 1), (0, 0, 0)), (52, (.iconst 0, 1), (0, 0, 0)), (53, (.istore_n 3, 1), (0, 0, 0)), (54, (.aload_n 0, 1), (0, 0, 0)), (55, (.invokevirtual 78, 3), (141, 0, 0)), (58, (.aload_n 0, 1), (0, 0, 0)), (59, (.ldc2_w 51, 3), (504363246962, 1288, 0)), (62, (.invokevirtual 127, 3), (146, 38, 0)), (65, (.ifCond .eq 12, 3), (0, 0, 0)), (68, (.aload_n 0, 1), (0, 0, 0)), (69, (.invokevirtual 78, 3), (141, 0, 0)), (72, (.aload_n 0, 1), (0, 0, 0)), (73, (.invokevirtual 131, 3), (152, 40, 0)), (76, (.istore_n 3, 1), (0, 0, 0)), (77, (.aload_n 0, 1), (0, 0, 0)), (78, (.invokevirtual 100, 3), (140, 14, 0)), (81, (.ifCond .ne 4, 3), (0, 0, 0)), (84, (.return_, 1), (0, 0, 0)), (85, (.aload_n 0, 1), (0, 0, 0)), (86, (.getfield 97, 3), (11, 14, 28)), (89, (.bipush 11, 2), (0, 0, 0)), (91, (.aload_n 0, 1), (0, 0, 0)), (92, (.getfield 91, 3), (11, 4, 8)), (95, (.imul, 1), (0, 0, 0)), (96, (.aload_n 0, 1), (0, 0, 0)), (97, (.getfield 94, 3), (11, 29, 58)), (100, (.iadd, 1), (0, 0, 0)), (101, (.lload_n 1, 1), (0, 0, 0)), (102, (.lastore, 1), (0, 0, 0)), (103, (.aload_n 0, 1), (0, 0, 0)), (104, (.getfield 134, 3), (11, 16, 32)), (107, (.bipush 11, 2), (0, 0, 0)), (109, (.aload_n 0, 1), (0, 0, 0)), (110, (.getfield 91, 3), (11, 4, 8)), (113, (.imul, 1), (0, 0, 0)), (114, (.aload_n 0, 1), (0, 0, 0)), (115, (.getfield 94, 3), (11, 29, 58)), (118, (.iadd, 1), (0, 0, 0)), (119, (.iload_n 3, 1), (0, 0, 0)), (120, (.iastore, 1), (0, 0, 0)), (121, (.aload_n 0, 1), (0, 0, 0)), (122, (.dup, 1), (0, 0, 0)), (123, (.getfield 94, 3), (11, 29, 58)), (126, (.iconst 1, 1), (0, 0, 0)), (127, (.iadd, 1), (0, 0, 0)), (128, (.putfield 94, 3), (11, 29, 58)), (131, (.aload_n 0, 1), (0, 0, 0)), (132, (.bipush 59, 2), (0, 0, 0)), (134, (.invokevirtual 115, 3), (148, 24, 0)), (137, (.return_, 1), (0, 0, 0))]
/-- MixfixBenchModel.readWord -/
def X_c157 : List (Nat × (Jvm.ClassFile.Instr × Nat) × (Nat × Nat × Nat)) := [(0, (.bipush 30, 2), (0, 0, 0)), (2, (.aload_n 0, 1), (0, 0, 0)), (3, (.getfield 91, 3), (11, 4, 8)), (6, (.imul, 1), (0, 0, 0)), (7, (.aload_n 0, 1), (0, 0, 0)), (8, (.getfield 138, 3), (11, 30, 60)), (11, (.iadd, 1), (0, 0, 0)), (12, (.istore_n 1, 1), (0, 0, 0)), (13, (.aload_n 0, 1), (0, 0, 0)), (14, (.getfield 141, 3), (11, 17, 34)), (17, (.iload_n 1, 1), (0, 0, 0)), (18, (.aload_n 0, 1), (0, 0, 0)), (19, (.invokevirtual 119, 3), (151, 30, 0)), (22, (.iastore, 1), (0, 0, 0)), (23, (.aload_n 0, 1), (0, 0, 0)), (24, (.getfield 144, 3), (11, 18, 36)), (27, (.iload_n 1, 1), (0, 0, 0)), (28, (.iconst 0, 1), (0, 0, 0)), (29, (.iastore, 1), (0, 0, 0)), (30, (.aload_n 0, 1), (0, 0, 0)), (31, (.getfield 147, 3), (11, 19, 38)), (34, (.iload_n 1, 1), (0, 0, 0)), (35, (.iconst 0, 1), (0, 0, 0)), (36, (.iastore, 1), (0, 0, 0)), (37, (.aload_n 0, 1), (0, 0, 0)), (38, (.getfield 150, 3), (11, 20, 40)), (41, (.iload_n 1, 1), (0, 0, 0)), (42, (.iconst 0, 1), (0, 0, 0)), (43, (.iastore, 1), (0, 0, 0)), (44, (.aload_n 0, 1), (0, 0, 0)), (45, (.getfield 153, 3), (11, 21, 42)), (48, (.iload_n 1, 1), (0, 0, 0)), (49, (.iconst 0, 1), (0, 0, 0)), (50, (.iastore, 1), (0, 0, 0)), (51, (.aload_n 0, 1), (0, 0, 0)), (52, (.getfield 156, 3), (11, 22, 44)), (55, (.iload_n 1, 1), (0, 0, 0)), (56, (.iconst (-1), 1), (0, 0, 0)), (57, (.iastore, 1), (0, 0, 0)), (58, (.aload_n 0, 1), (0, 0, 0)), (59, (.invokevirtual 100, 3), (140, 14, 0)), (62, (.ifCond .eq 48, 3), (0, 0, 0)), (65, (.aload_n 0, 1), (0, 0, 0)), (66, (.ldc2_w 55, 3), (1818584692, 1290, 0)), (69, (.invokevirtual 127, 3), (146, 38, 0)), (72, (.ifCond .ne 13, 3), (0, 0, 0)), (75, (.aload_n 0, 1), (0, 0, 0)), (76, (.ldc2_w 57, 3), (491394656372, 1291, 0)), (79, (.invokevirtual 127, 3), (146, 38, 0)), (82, (.ifCond .eq 28, 3), (0, 0, 0)), (85, (.aload_n 0, 1), (0, 0, 0)), (86, (.getfield 144, 3), (11, 18, 36)), (89, (.iload_n 1, 1), (0, 0, 0)), (90, (.aload_n 0, 1), (0, 0, 0)), (91, (.ldc2_w 55, 3), (1818584692, 1290, 0)), (94, (.invokevirtual 127, 3), (146, 38, 0)), (97, (.ifCond .eq 7, 3), (0, 0, 0)), (100, (.iconst 1, 1), (0, 0, 0)), (101, (.goto 4, 3), (0, 0, 0)), (104, (.iconst 2, 1), (0, 0, 0)), (105, (.iastore, 1), (0, 0, 0)), (106, (.aload_n 0, 1), (0, 0, 0)), (107, (.invokevirtual 78, 3), (141, 0, 0)), (110, (.aload_n 0, 1), (0, 0, 0)), (111, (.invokevirtual 100, 3), (140, 14, 0)), (114, (.ifCond .eq 21, 3), (0, 0, 0)), (117, (.aload_n 0, 1), (0, 0, 0)), (118, (.getfield 27, 3), (11, 9, 18)), (121, (.iconst 2, 1), (0, 0, 0)), (122, (.if_icmp .ne 13, 3), (0, 0, 0)), (125, (.aload_n 0, 1), (0, 0, 0)), (126, (.getfield 147, 3), (11, 19, 38)), (129, (.iload_n 1, 1), (0, 0, 0)), (130, (.aload_n 0, 1), (0, 0, 0)), (131, (.invokevirtual 131, 3), (152, 40, 0)), (134, (.iastore, 1), (0, 0, 0)), (135, (.aload_n 0, 1), (0, 0, 0)), (136, (.getfield 20, 3), (11, 7, 14)), (139, (.istore_n 2, 1), (0, 0, 0)), (140, (.aload_n 0, 1), (0, 0, 0)), (141, (.invokevirtual 100, 3), (140, 14, 0)), (144, (.ifCond .eq 9, 3), (0, 0, 0)), (147, (.aload_n 0, 1), (0, 0, 0)), (148, (.bipush 58, 2), (0, 0, 0)), (150, (.invokevirtual 115, 3), (148, 24, 0)), (153, (.iconst 0, 1), (0, 0, 0)), (154, (.istore_n 3, 1), (0, 0, 0)), (155, (.aload_n 0, 1), (0, 0, 0)), (156, (.invokevirtual 100, 3), (140, 14, 0)), (159, (.ifCond .eq 46, 3), (0, 0, 0)), (162, (.aload_n 0, 1), (0, 0, 0)), (163, (.getfield 27, 3), (11, 9, 18)), (166, (.iconst 5, 1), (0, 0, 0)), (167, (.if_icmp .eq 12, 3), (0, 0, 0)), (170, (.aload_n 0, 1), (0, 0, 0)), (171, (.bipush 95, 2), (0, 0, 0)), (173, (.invokevirtual 75, 3), (145, 26, 0)), (176, (.ifCond .eq 29, 3), (0, 0, 0)), (179, (.iload_n 3, 1), (0, 0, 0)), (180, (.ifCond .ne 11, 3), (0, 0, 0)), (183, (.aload_n 0, 1), (0, 0, 0)), (184, (.getfield 27, 3), (11, 9, 18)), (187, (.iconst 5, 1), (0, 0, 0)), (188, (.if_icmp .ne 7, 3), (0, 0, 0)), (191, (.iconst 1, 1), (0, 0, 0)), (192, (.goto 4, 3), (0, 0, 0)), (195, (.iconst 0, 1), (0, 0, 0)), (196, (.istore_n 3, 1), (0, 0, 0)), (197, (.aload_n 0, 1), (0, 0, 0)), (198, (.iload_n 1, 1), (0, 0, 0)), (199, (.invokevirtual 159, 3), (158, 44, 0)), (202, (.goto (-47), 3), (0, 0, 0)), (205, (.aload_n 0, 1), (0, 0, 0)), (206, (.invokevirtual 100, 3), (140, 14, 0)), (209, (.ifCond .eq 38, 3), (0, 0, 0)), (212, (.aload_n 0, 1), (0, 0, 0)), (213, (.getfield 150, 3), (11, 20, 40)), (216, (.iload_n 1, 1), (0, 0, 0)), (217, (.iaload, 1), (0, 0, 0)), (218, (.ifCond .eq 25, 3), (0, 0, 0)), (221, (.iload_n 3, 1), (0, 0, 0)), (222, (.ifCond .eq 21, 3), (0, 0, 0)), (225, (.aload_n 0, 1), (0, 0, 0)), (226, (.bipush 61, 2), (0, 0, 0)), (228, (.invokevirtual 75, 3), (145, 26, 0)), (231, (.ifCond .ne 16, 3), (0, 0, 0)), (234, (.aload_n 0, 1), (0, 0, 0)), (235, (.bipush 59, 2), (0, 0, 0)), (237, (.invokevirtual 75, 3), (145, 26, 0)), (240, (.ifCond .ne 7, 3), (0, 0, 0)), (243, (.aload_n 0, 1), (0, 0, 0)), (244, (.invokevirtual 81, 3), (147, 16, 0)), (247, (.aload_n 0, 1), (0, 0, 0)), (248, (.invokevirtual 100, 3), (140, 14, 0)), (251, (.ifCond .eq 26, 3), (0, 0, 0)), (254, (.aload_n 0, 1), (0, 0, 0)), (255, (.getfield 144, 3), (11, 18, 36)), (258, (.iload_n 1, 1), (0, 0, 0)), (259, (.iaload, 1), (0, 0, 0)), (260, (.ifCond .le 17, 3), (0, 0, 0)), (263, (.aload_n 0, 1), (0, 0, 0)), (264, (.iload_n 1, 1), (0, 0, 0)), (265, (.invokevirtual 162, 3), (160, 46, 0)), (268, (.ifCond .ne 9, 3), (0, 0, 0)), (271, (.aload_n 0, 1), (0, 0, 0)), (272, (.iconst 2, 1), (0, 0, 0)), (273, (.iload_n 2, 1), (0, 0, 0)), (274, (.invokevirtual 72, 3), (139, 18, 0)), (277, (.aload_n 0, 1), (0, 0, 0)), (278, (.invokevirtual 100, 3), (140, 14, 0)), (281, (.ifCond .eq 21, 3), (0, 0, 0)), (284, (.aload_n 0, 1), (0, 0, 0)), (285, (.bipush 61, 2), (0, 0, 0)), (287, (.invokevirtual 75, 3), (145, 26, 0)), (290, (.ifCond .eq 12, 3), (0, 0, 0)), (293, (.aload_n 0, 1), (0, 0, 0)), (294, (.invokevirtual 78, 3), (141, 0, 0)), (297, (.aload_n 0, 1), (0, 0, 0)), (298, (.iload_n 1, 1), (0, 0, 0)), (299, (.invokevirtual 165, 3), (159, 48, 0)), (302, (.aload_n 0, 1), (0, 0, 0)), (303, (.dup, 1), (0, 0, 0)), (304, (.getfield 138, 3), (11, 30, 60)), (307, (.iconst 1, 1), (0, 0, 0)), (308, (.iadd, 1), (0, 0, 0)), (309, (.putfield 138, 3), (11, 30, 60)), (312, (.aload_n 0, 1), (0, 0, 0)), (313, (.invokevirtual 100, 3), (140, 14, 0)), (316, (.ifCond .eq 9, 3), (0, 0, 0)), (319, (.aload_n 0, 1), (0, 0, 0)), (320, (.bipush 59, 2), (0, 0, 0)), (322, (.invokevirtual 115, 3), (148, 24, 0)), (325, (.return_, 1), (0, 0, 0))]
/-- MixfixBenchModel.readElement -/
def X_c158 : List (Nat × (Jvm.ClassFile.Instr × Nat) × (Nat × Nat × Nat)) := [(0, (.bipush 8, 2), (0, 0, 0)), (2, (.iload_n 1, 1), (0, 0, 0)), (3, (.imul, 1), (0, 0, 0)), (4, (.aload_n 0, 1), (0, 0, 0)), (5, (.getfield 150, 3), (11, 20, 40)), (8, (.iload_n 1, 1), (0, 0, 0)), (9, (.iaload, 1), (0, 0, 0)), (10, (.iadd, 1), (0, 0, 0)), (11, (.istore_n 2, 1), (0, 0, 0)), (12, (.aload_n 0, 1), (0, 0, 0)), (13, (.getfield 27, 3), (11, 9, 18)), (16, (.iconst 5, 1), (0, 0, 0)), (17, (.if_icmp .eq 7, 3), (0, 0, 0)), (20, (.iconst 1, 1), (0, 0, 0)), (21, (.goto 4, 3), (0, 0, 0)), (24, (.iconst 0, 1), (0, 0, 0)), (25, (.istore_n 3, 1), (0, 0, 0)), (26, (.aload_n 0, 1), (0, 0, 0)), (27, (.getfield 150, 3), (11, 20, 40)), (30, (.iload_n 1, 1), (0, 0, 0)), (31, (.iaload, 1), (0, 0, 0)), (32, (.bipush 8, 2), (0, 0, 0)), (34, (.if_icmp .eq 39, 3), (0, 0, 0)), (37, (.iload_n 3, 1), (0, 0, 0)), (38, (.ifCond .eq 39, 3), (0, 0, 0)), (41, (.aload_n 0, 1), (0, 0, 0)), (42, (.getfield 153, 3), (11, 21, 42)), (45, (.iload_n 1, 1), (0, 0, 0)), (46, (.iaload, 1), (0, 0, 0)), (47, (.iconst 4, 1), (0, 0, 0)), (48, (.if_icmp .eq 25, 3), (0, 0, 0)), (51, (.aload_n 0, 1), (0, 0, 0)), (52, (.getfield 150, 3), (11, 20, 40)), (55, (.iload_n 1, 1), (0, 0, 0)), (56, (.iaload, 1), (0, 0, 0)), (57, (.ifCond .le 20, 3), (0, 0, 0)), (60, (.aload_n 0, 1), (0, 0, 0)), (61, (.getfield 168, 3), (11, 25, 50)), (64, (.iload_n 2, 1), (0, 0, 0)), (65, (.iconst 1, 1), (0, 0, 0)), (66, (.isub, 1), (0, 0, 0)), (67, (.laload, 1), (0, 0, 0)), (68, (.lconst 0, 1), (0, 0, 0)), (69, (.lcmp, 1), (0, 0, 0)), (70, (.ifCond .ne 7, 3), (0, 0, 0)), (73, (.aload_n 0, 1), (0, 0, 0)), (74, (.invokevirtual 81, 3), (147, 16, 0)), (77, (.aload_n 0, 1), (0, 0, 0)), (78, (.invokevirtual 100, 3), (140, 14, 0)), (81, (.ifCond .ne 4, 3), (0, 0, 0)), (84, (.return_, 1), (0, 0, 0)), (85, (.aload_n 0, 1), (0, 0, 0)), (86, (.getfield 150, 3), (11, 20, 40)), (89, (.iload_n 1, 1), (0, 0, 0)), (90, (.dup2, 1), (0, 0, 0)), (91, (.iaload, 1), (0, 0, 0)), (92, (.iconst 1, 1), (0, 0, 0)), (93, (.iadd, 1), (0, 0, 0)), (94, (.iastore, 1), (0, 0, 0)), (95, (.aload_n 0, 1), (0, 0, 0)), (96, (.getfield 168, 3), (11, 25, 50)), (99, (.iload_n 2, 1), (0, 0, 0)), (100, (.iload_n 3, 1), (0, 0, 0)), (101, (.ifCond .eq 7, 3), (0, 0, 0)), (104, (.lconst 0, 1), (0, 0, 0)), (105, (.goto 7, 3), (0, 0, 0)), (108, (.aload_n 0, 1), (0, 0, 0)), (109, (.getfield 41, 3), (11, 12, 24)), (112, (.lastore, 1), (0, 0, 0)), (113, (.aload_n 0, 1), (0, 0, 0)), (114, (.invokevirtual 78, 3), (141, 0, 0)), (117, (.iload_n 3, 1), (0, 0, 0)), (118, (.ifCond .ne 4, 3), (0, 0, 0)), (121, (.return_, 1), (0, 0, 0)), (122, (.aload_n 0, 1), (0, 0, 0)), (123, (.getfield 171, 3), (11, 26, 52)), (126, (.iload_n 2, 1), (0, 0, 0)), (127, (.aload_n 0, 1), (0, 0, 0)), (128, (.getfield 153, 3), (11, 21, 42)), (131, (.iload_n 1, 1), (0, 0, 0)), (132, (.iaload, 1), (0, 0, 0)), (133, (.iastore, 1), (0, 0, 0)), (134, (.aload_n 0, 1), (0, 0, 0)), (135, (.getfield 174, 3), (11, 27, 54)), (138, (.iconst 4, 1), (0, 0, 0)), (139, (.iload_n 1, 1), (0, 0, 0)), (140, (.imul, 1), (0, 0, 0)), (141, (.aload_n 0, 1), (0, 0, 0)), (142, (.getfield 153, 3), (11, 21, 42)), (145, (.iload_n 1, 1), (0, 0, 0)), (146, (.iaload, 1), (0, 0, 0)), (147, (.iadd, 1), (0, 0, 0)), (148, (.aload_n 0, 1), (0, 0, 0)), (149, (.getfield 27, 3), (11, 9, 18)), (152, (.iconst 2, 1), (0, 0, 0)), (153, (.if_icmp .ne 10, 3), (0, 0, 0)), (156, (.aload_n 0, 1), (0, 0, 0)), (157, (.invokevirtual 131, 3), (152, 40, 0)), (160, (.goto 4, 3), (0, 0, 0)), (163, (.iconst 0, 1), (0, 0, 0)), (164, (.iastore, 1), (0, 0, 0)), (165, (.aload_n 0, 1), (0, 0, 0)), (166, (.getfield 153, 3), (11, 21, 42)), (169, (.iload_n 1, 1), (0, 0, 0)), (170, (.dup2, 1), (0, 0, 0)), (171, (.iaload, 1), (0, 0, 0)), (172, (.iconst 1, 1), (0, 0, 0)), (173, (.iadd, 1), (0, 0, 0)), (174, (.iastore, 1), (0, 0, 0)), (175, (.return_, 1), (0, 0, 0))]
/-- MixfixBenchModel.readSteps -/
def X_c159 : List (Nat × (Jvm.ClassFile.Instr × Nat) × (Nat × Nat × Nat)) := [(0, (.iconst 0, 1), (0, 0, 0)), (1, (.istore_n 2, 1), (0, 0, 0)), (2, (.aload_n 0, 1), (0, 0, 0)), (3, (.getfield 156, 3), (11, 22, 44)), (6, (.iload_n 1, 1), (0, 0, 0)), (7, (.iconst 0, 1), (0, 0, 0)), (8, (.iastore, 1), (0, 0, 0)), (9, (.aload_n 0, 1), (0, 0, 0)), (10, (.invokevirtual 100, 3), (140, 14, 0)), (13, (.ifCond .eq 296, 3), (0, 0, 0)), (16, (.aload_n 0, 1), (0, 0, 0)), (17, (.bipush 59, 2), (0, 0, 0)), (19, (.invokevirtual 75, 3), (145, 26, 0)), (22, (.ifCond .ne 287, 3), (0, 0, 0)), (25, (.aload_n 0, 1), (0, 0, 0)), (26, (.getfield 20, 3), (11, 7, 14)), (29, (.istore_n 3, 1), (0, 0, 0)), (30, (.aload_n 0, 1), (0, 0, 0)), (31, (.getfield 27, 3), (11, 9, 18)), (34, (.iconst 4, 1), (0, 0, 0)), (35, (.if_icmp .ne 8, 3), (0, 0, 0)), (38, (.bipush 110, 2), (0, 0, 0)), (40, (.goto 24, 3), (0, 0, 0)), (43, (.aload_n 0, 1), (0, 0, 0)), (44, (.getfield 27, 3), (11, 9, 18)), (47, (.bipush 6, 2), (0, 0, 0)), (49, (.if_icmp .ne 14, 3), (0, 0, 0)), (52, (.aload_n 0, 1), (0, 0, 0)), (53, (.aload_n 0, 1), (0, 0, 0)), (54, (.getfield 20, 3), (11, 7, 14)), (57, (.invokevirtual 23, 3), (136, 2, 0)), (60, (.goto 4, 3), (0, 0, 0)), (63, (.iconst 0, 1), (0, 0, 0)), (64, (.istore 4, 2), (0, 0, 0)), (66, (.iload 4, 2), (0, 0, 0)), (68, (.ifCond .eq 35, 3), (0, 0, 0)), (71, (.iload 4, 2), (0, 0, 0)), (73, (.bipush 61, 2), (0, 0, 0)), (75, (.if_icmp .eq 28, 3), (0, 0, 0)), (78, (.iload 4, 2), (0, 0, 0)), (80, (.bipush 58, 2), (0, 0, 0)), (82, (.if_icmp .eq 21, 3), (0, 0, 0)), (85, (.iload 4, 2), (0, 0, 0)), (87, (.bipush 95, 2), (0, 0, 0)), (89, (.if_icmp .eq 14, 3), (0, 0, 0)), (92, (.aload_n 0, 1), (0, 0, 0)), (93, (.getfield 156, 3), (11, 22, 44)), (96, (.iload_n 1, 1), (0, 0, 0)), (97, (.iaload, 1), (0, 0, 0)), (98, (.bipush 30, 2), (0, 0, 0)), (100, (.if_icmp .ne 7, 3), (0, 0, 0)), (103, (.aload_n 0, 1), (0, 0, 0)), (104, (.invokevirtual 81, 3), (147, 16, 0)), (107, (.aload_n 0, 1), (0, 0, 0)), (108, (.invokevirtual 100, 3), (140, 14, 0)), (111, (.ifCond .ne 4, 3), (0, 0, 0)), (114, (.return_, 1), (0, 0, 0)), (115, (.bipush 30, 2), (0, 0, 0)), (117, (.iload_n 1, 1), (0, 0, 0)), (118, (.imul, 1), (0, 0, 0)), (119, (.aload_n 0, 1), (0, 0, 0)), (120, (.getfield 156, 3), (11, 22, 44)), (123, (.iload_n 1, 1), (0, 0, 0)), (124, (.iaload, 1), (0, 0, 0)), (125, (.iadd, 1), (0, 0, 0)), (126, (.istore 5, 2), (0, 0, 0)), (128, (.aload_n 0, 1), (0, 0, 0)), (129, (.getfield 177, 3), (11, 23, 46)), (132, (.iload 5, 2), (0, 0, 0)), (134, (.iload 4, 2), (0, 0, 0)), (136, (.iastore, 1), (0, 0, 0)), (137, (.aload_n 0, 1), (0, 0, 0)), (138, (.getfield 180, 3), (11, 24, 48)), (141, (.iload 5, 2), (0, 0, 0)), (143, (.aload_n 0, 1), (0, 0, 0)), (144, (.getfield 59, 3), (11, 10, 20)), (147, (.iastore, 1), (0, 0, 0)), (148, (.aload_n 0, 1), (0, 0, 0)), (149, (.invokevirtual 78, 3), (141, 0, 0)), (152, (.iload 4, 2), (0, 0, 0)), (154, (.bipush 64, 2), (0, 0, 0)), (156, (.if_icmp .ne 48, 3), (0, 0, 0)), (159, (.aload_n 0, 1), (0, 0, 0)), (160, (.getfield 27, 3), (11, 9, 18)), (163, (.iconst 4, 1), (0, 0, 0)), (164, (.if_icmp .ne 11, 3), (0, 0, 0)), (167, (.aload_n 0, 1), (0, 0, 0)), (168, (.getfield 62, 3), (11, 11, 22)), (171, (.iconst 1, 1), (0, 0, 0)), (172, (.if_icmp .le 7, 3), (0, 0, 0)), (175, (.aload_n 0, 1), (0, 0, 0)), (176, (.invokevirtual 81, 3), (147, 16, 0)), (179, (.aload_n 0, 1), (0, 0, 0)), (180, (.invokevirtual 100, 3), (140, 14, 0)), (183, (.ifCond .ne 4, 3), (0, 0, 0)), (186, (.return_, 1), (0, 0, 0)), (187, (.aload_n 0, 1), (0, 0, 0)), (188, (.getfield 180, 3), (11, 24, 48)), (191, (.iload 5, 2), (0, 0, 0)), (193, (.aload_n 0, 1), (0, 0, 0)), (194, (.getfield 59, 3), (11, 10, 20)), (197, (.iconst 1, 1), (0, 0, 0)), (198, (.isub, 1), (0, 0, 0)), (199, (.iastore, 1), (0, 0, 0)), (200, (.aload_n 0, 1), (0, 0, 0)), (201, (.invokevirtual 78, 3), (141, 0, 0)), (204, (.iload 4, 2), (0, 0, 0)), (206, (.bipush 110, 2), (0, 0, 0)), (208, (.if_icmp .eq 10, 3), (0, 0, 0)), (211, (.iload 4, 2), (0, 0, 0)), (213, (.bipush 64, 2), (0, 0, 0)), (215, (.if_icmp .ne 7, 3), (0, 0, 0)), (218, (.iconst 1, 1), (0, 0, 0)), (219, (.goto 4, 3), (0, 0, 0)), (222, (.iconst 0, 1), (0, 0, 0)), (223, (.istore 6, 2), (0, 0, 0)), (225, (.iload 6, 2), (0, 0, 0)), (227, (.ifCond .eq 45, 3), (0, 0, 0)), (230, (.iload_n 2, 1), (0, 0, 0)), (231, (.bipush 16, 2), (0, 0, 0)), (233, (.if_icmp .eq 44, 3), (0, 0, 0)), (236, (.iload 4, 2), (0, 0, 0)), (238, (.bipush 64, 2), (0, 0, 0)), (240, (.if_icmp .ne 43, 3), (0, 0, 0)), (243, (.aload_n 0, 1), (0, 0, 0)), (244, (.getfield 180, 3), (11, 24, 48)), (247, (.iload 5, 2), (0, 0, 0)), (249, (.iaload, 1), (0, 0, 0)), (250, (.ifCond .lt 27, 3), (0, 0, 0)), (253, (.aload_n 0, 1), (0, 0, 0)), (254, (.getfield 180, 3), (11, 24, 48)), (257, (.iload 5, 2), (0, 0, 0)), (259, (.iaload, 1), (0, 0, 0)), (260, (.aload_n 0, 1), (0, 0, 0)), (261, (.getfield 153, 3), (11, 21, 42)), (264, (.iload_n 1, 1), (0, 0, 0)), (265, (.iaload, 1), (0, 0, 0)), (266, (.if_icmp .lt 17, 3), (0, 0, 0)), (269, (.goto 8, 3), (0, 0, 0)), (272, (.iload_n 2, 1), (0, 0, 0)), (273, (.iconst 2, 1), (0, 0, 0)), (274, (.if_icmp .ge 9, 3), (0, 0, 0)), (277, (.aload_n 0, 1), (0, 0, 0)), (278, (.iconst 5, 1), (0, 0, 0)), (279, (.iload_n 3, 1), (0, 0, 0)), (280, (.invokevirtual 72, 3), (139, 18, 0)), (283, (.iload_n 2, 1), (0, 0, 0)), (284, (.iload 6, 2), (0, 0, 0)), (286, (.ifCond .eq 7, 3), (0, 0, 0)), (289, (.iconst 1, 1), (0, 0, 0)), (290, (.goto 4, 3), (0, 0, 0)), (293, (.iconst (-1), 1), (0, 0, 0)), (294, (.iadd, 1), (0, 0, 0)), (295, (.istore_n 2, 1), (0, 0, 0)), (296, (.aload_n 0, 1), (0, 0, 0)), (297, (.getfield 156, 3), (11, 22, 44)), (300, (.iload_n 1, 1), (0, 0, 0)), (301, (.dup2, 1), (0, 0, 0)), (302, (.iaload, 1), (0, 0, 0)), (303, (.iconst 1, 1), (0, 0, 0)), (304, (.iadd, 1), (0, 0, 0)), (305, (.iastore, 1), (0, 0, 0)), (306, (.goto (-297), 3), (0, 0, 0)), (309, (.aload_n 0, 1), (0, 0, 0)), (310, (.invokevirtual 100, 3), (140, 14, 0)), (313, (.ifCond .eq 17, 3), (0, 0, 0)), (316, (.iload_n 2, 1), (0, 0, 0)), (317, (.iconst 1, 1), (0, 0, 0)), (318, (.if_icmp .eq 12, 3), (0, 0, 0)), (321, (.aload_n 0, 1), (0, 0, 0)), (322, (.iconst 5, 1), (0, 0, 0)), (323, (.aload_n 0, 1), (0, 0, 0)), (324, (.getfield 20, 3), (11, 7, 14)), (327, (.invokevirtual 72, 3), (139, 18, 0)), (330, (.return_, 1), (0, 0, 0))]
/-- MixfixBenchModel.ends -/
def X_c160 : List (Nat × (Jvm.ClassFile.Instr × Nat) × (Nat × Nat × Nat)) := [(0, (.aload_n 0, 1), (0, 0, 0)), (1, (.getfield 168, 3), (11, 25, 50)), (4, (.bipush 8, 2), (0, 0, 0)), (6, (.iload_n 1, 1), (0, 0, 0)), (7, (.imul, 1), (0, 0, 0)), (8, (.laload, 1), (0, 0, 0)), (9, (.lconst 0, 1), (0, 0, 0)), (10, (.lcmp, 1), (0, 0, 0)), (11, (.ifCond .ne 7, 3), (0, 0, 0)), (14, (.iconst 1, 1), (0, 0, 0)), (15, (.goto 4, 3), (0, 0, 0)), (18, (.iconst 0, 1), (0, 0, 0)), (19, (.aload_n 0, 1), (0, 0, 0)), (20, (.getfield 168, 3), (11, 25, 50)), (23, (.bipush 8, 2), (0, 0, 0)), (25, (.iload_n 1, 1), (0, 0, 0)), (26, (.imul, 1), (0, 0, 0)), (27, (.aload_n 0, 1), (0, 0, 0)), (28, (.getfield 150, 3), (11, 20, 40)), (31, (.iload_n 1, 1), (0, 0, 0)), (32, (.iaload, 1), (0, 0, 0)), (33, (.iadd, 1), (0, 0, 0)), (34, (.iconst 1, 1), (0, 0, 0)), (35, (.isub, 1), (0, 0, 0)), (36, (.laload, 1), (0, 0, 0)), (37, (.lconst 0, 1), (0, 0, 0)), (38, (.lcmp, 1), (0, 0, 0)), (39, (.ifCond .ne 7, 3), (0, 0, 0)), (42, (.iconst 2, 1), (0, 0, 0)), (43, (.goto 4, 3), (0, 0, 0)), (46, (.iconst 0, 1), (0, 0, 0)), (47, (.iadd, 1), (0, 0, 0)), (48, (.ireturn, 1), (0, 0, 0))]
/-- MixfixBenchModel.<init> -/
def X_c161 : List (Nat × (Jvm.ClassFile.Instr × Nat) × (Nat × Nat × Nat)) := [(0, (.aload_n 0, 1), (0, 0, 0)), (1, (.invokespecial 183, 3), (9999, 1042, 0)), (4, (.aload_n 0, 1), (0, 0, 0)), (5, (.sipush 2020, 3), (0, 0, 0)), (8, (.newarray .byte, 2), (0, 0, 0)), (10, (.putfield 188, 3), (11, 0, 0)), (13, (.aload_n 0, 1), (0, 0, 0)), (14, (.sipush 2000, 3), (0, 0, 0)), (17, (.newarray .byte, 2), (0, 0, 0)), (19, (.putfield 7, 3), (11, 2, 4)), (22, (.aload_n 0, 1), (0, 0, 0)), (23, (.iconst (-1), 1), (0, 0, 0)), (24, (.putfield 14, 3), (11, 6, 12)), (27, (.aload_n 0, 1), (0, 0, 0)), (28, (.bipush 24, 2), (0, 0, 0)), (30, (.newarray .long, 2), (0, 0, 0)), (32, (.putfield 87, 3), (11, 13, 26)), (35, (.aload_n 0, 1), (0, 0, 0)), (36, (.bipush 22, 2), (0, 0, 0)), (38, (.newarray .long, 2), (0, 0, 0)), (40, (.putfield 97, 3), (11, 14, 28)), (43, (.aload_n 0, 1), (0, 0, 0)), (44, (.sipush 288, 3), (0, 0, 0)), (47, (.newarray .boolean, 2), (0, 0, 0)), (49, (.putfield 111, 3), (11, 15, 30)), (52, (.aload_n 0, 1), (0, 0, 0)), (53, (.bipush 22, 2), (0, 0, 0)), (55, (.newarray .int, 2), (0, 0, 0)), (57, (.putfield 134, 3), (11, 16, 32)), (60, (.aload_n 0, 1), (0, 0, 0)), (61, (.bipush 60, 2), (0, 0, 0)), (63, (.newarray .int, 2), (0, 0, 0)), (65, (.putfield 141, 3), (11, 17, 34)), (68, (.aload_n 0, 1), (0, 0, 0)), (69, (.bipush 60, 2), (0, 0, 0)), (71, (.newarray .int, 2), (0, 0, 0)), (73, (.putfield 144, 3), (11, 18, 36)), (76, (.aload_n 0, 1), (0, 0, 0)), (77, (.bipush 60, 2), (0, 0, 0)), (79, (.newarray .int, 2), (0, 0, 0)), (81, (.putfield 147, 3), (11, 19, 38)), (84, (.aload_n 0, 1), (0, 0, 0)), (85, (.bipush 60, 2), (0, 0, 0)), (87, (.newarray .int, 2), (0, 0, 0)), (89, (.putfield 150, 3), (11, 20, 40)), (92, (.aload_n 0, 1), (0, 0, 0)), (93, (.bipush 60, 2), (0, 0, 0)), (95, (.newarray .int, 2), (0, 0, 0)), (97, (.putfield 153, 3), (11, 21, 42)), (100, (.aload_n 0, 1), (0, 0, 0)), (101, (.bipush 60, 2), (0, 0, 0)), (103, (.newarray .int, 2), (0, 0, 0)), (105, (.putfield 156, 3), (11, 22, 44)), (108, (.aload_n 0, 1), (0, 0, 0)), (109, (.sipush 1800, 3), (0, 0, 0)), (112, (.newarray .int, 2), (0, 0, 0)), (114, (.putfield 177, 3), (11, 23, 46)), (117, (.aload_n 0, 1), (0, 0, 0)), (118, (.sipush 1800, 3), (0, 0, 0)), (121, (.newarray .int, 2), (0, 0, 0)), (123, (.putfield 180, 3), (11, 24, 48)), (126, (.aload_n 0, 1), (0, 0, 0)), (127, (.sipush 480, 3), (0, 0, 0)), (130, (.newarray .long, 2), (0, 0, 0)), (132, (.putfield 168, 3), (11, 25, 50)), (135, (.aload_n 0, 1), (0, 0, 0)), (136, (.sipush 480, 3), (0, 0, 0)), (139, (.newarray .int, 2), (0, 0, 0)), (141, (.putfield 171, 3), (11, 26, 52)), (144, (.aload_n 0, 1), (0, 0, 0)), (145, (.sipush 240, 3), (0, 0, 0)), (148, (.newarray .int, 2), (0, 0, 0)), (150, (.putfield 174, 3), (11, 27, 54)), (153, (.aload_n 0, 1), (0, 0, 0)), (154, (.iconst 1, 1), (0, 0, 0)), (155, (.putfield 191, 3), (11, 32, 64)), (158, (.aload_n 0, 1), (0, 0, 0)), (159, (.bipush 30, 2), (0, 0, 0)), (161, (.newarray .long, 2), (0, 0, 0)), (163, (.putfield 194, 3), (11, 34, 68)), (166, (.aload_n 0, 1), (0, 0, 0)), (167, (.bipush 30, 2), (0, 0, 0)), (169, (.newarray .long, 2), (0, 0, 0)), (171, (.putfield 197, 3), (11, 35, 70)), (174, (.aload_n 0, 1), (0, 0, 0)), (175, (.bipush 30, 2), (0, 0, 0)), (177, (.newarray .int, 2), (0, 0, 0)), (179, (.putfield 200, 3), (11, 36, 72)), (182, (.aload_n 0, 1), (0, 0, 0)), (183, (.bipush 30, 2), (0, 0, 0)), (185, (.newarray .int, 2), (0, 0, 0)), (187, (.putfield 203, 3), (11, 37, 74)), (190, (.aload_n 0, 1), (0, 0, 0)), (191, (.sipush 28830, 3), (0, 0, 0)), (194, (.newarray .long, 2), (0, 0, 0)), (196, (.putfield 206, 3), (11, 39, 78)), (199, (.aload_n 0, 1), (0, 0, 0)), (200, (.sipush 10571, 3), (0, 0, 0)), (203, (.newarray .long, 2), (0, 0, 0)), (205, (.putfield 209, 3), (11, 40, 80)), (208, (.aload_n 0, 1), (0, 0, 0)), (209, (.ldc 212, 2), (115320, 1043, 0)), (211, (.newarray .long, 2), (0, 0, 0)), (213, (.putfield 213, 3), (11, 41, 82)), (216, (.aload_n 0, 1), (0, 0, 0)), (217, (.bipush 32, 2), (0, 0, 0)), (219, (.newarray .long, 2), (0, 0, 0)), (221, (.putfield 216, 3), (11, 42, 84)), (224, (.aload_n 0, 1), (0, 0, 0)), (225, (.bipush 32, 2), (0, 0, 0)), (227, (.newarray .long, 2), (0, 0, 0)), (229, (.putfield 219, 3), (11, 43, 86)), (232, (.aload_n 0, 1), (0, 0, 0)), (233, (.bipush 40, 2), (0, 0, 0)), (235, (.newarray .int, 2), (0, 0, 0)), (237, (.putfield 222, 3), (11, 44, 88)), (240, (.aload_n 0, 1), (0, 0, 0)), (241, (.bipush 40, 2), (0, 0, 0)), (243, (.newarray .int, 2), (0, 0, 0)), (245, (.putfield 225, 3), (11, 45, 90)), (248, (.aload_n 0, 1), (0, 0, 0)), (249, (.bipush 40, 2), (0, 0, 0)), (251, (.newarray .int, 2), (0, 0, 0)), (253, (.putfield 228, 3), (11, 46, 92)), (256, (.aload_n 0, 1), (0, 0, 0)), (257, (.bipush 40, 2), (0, 0, 0)), (259, (.newarray .int, 2), (0, 0, 0)), (261, (.putfield 231, 3), (11, 47, 94)), (264, (.aload_n 0, 1), (0, 0, 0)), (265, (.bipush 40, 2), (0, 0, 0)), (267, (.newarray .int, 2), (0, 0, 0)), (269, (.putfield 234, 3), (11, 48, 96)), (272, (.aload_n 0, 1), (0, 0, 0)), (273, (.sipush 160, 3), (0, 0, 0)), (276, (.newarray .int, 2), (0, 0, 0)), (278, (.putfield 237, 3), (11, 50, 100)), (281, (.aload_n 0, 1), (0, 0, 0)), (282, (.sipush 160, 3), (0, 0, 0)), (285, (.newarray .int, 2), (0, 0, 0)), (287, (.putfield 240, 3), (11, 51, 102)), (290, (.aload_n 0, 1), (0, 0, 0)), (291, (.sipush 160, 3), (0, 0, 0)), (294, (.newarray .int, 2), (0, 0, 0)), (296, (.putfield 243, 3), (11, 52, 104)), (299, (.aload_n 0, 1), (0, 0, 0)), (300, (.sipush 160, 3), (0, 0, 0)), (303, (.newarray .int, 2), (0, 0, 0)), (305, (.putfield 246, 3), (11, 53, 106)), (308, (.aload_n 0, 1), (0, 0, 0)), (309, (.sipush 160, 3), (0, 0, 0)), (312, (.newarray .int, 2), (0, 0, 0)), (314, (.putfield 249, 3), (11, 54, 108)), (317, (.aload_n 0, 1), (0, 0, 0)), (318, (.sipush 160, 3), (0, 0, 0)), (321, (.newarray .int, 2), (0, 0, 0)), (323, (.putfield 252, 3), (11, 55, 110)), (326, (.aload_n 0, 1), (0, 0, 0)), (327, (.sipush 160, 3), (0, 0, 0)), (330, (.newarray .int, 2), (0, 0, 0)), (332, (.putfield 255, 3), (11, 56, 112)), (335, (.aload_n 0, 1), (0, 0, 0)), (336, (.sipush 160, 3), (0, 0, 0)), (339, (.newarray .long, 2), (0, 0, 0)), (341, (.putfield 258, 3), (11, 57, 114)), (344, (.aload_n 0, 1), (0, 0, 0)), (345, (.iconst 4, 1), (0, 0, 0)), (346, (.newarray .int, 2), (0, 0, 0)), (348, (.putfield 261, 3), (11, 59, 118)), (351, (.aload_n 0, 1), (0, 0, 0)), (352, (.iconst 4, 1), (0, 0, 0)), (353, (.newarray .int, 2), (0, 0, 0)), (355, (.putfield 264, 3), (11, 60, 120)), (358, (.aload_n 0, 1), (0, 0, 0)), (359, (.iconst 4, 1), (0, 0, 0)), (360, (.newarray .long, 2), (0, 0, 0)), (362, (.putfield 267, 3), (11, 61, 122)), (365, (.aload_n 0, 1), (0, 0, 0)), (366, (.sipush 288, 3), (0, 0, 0)), (369, (.newarray .long, 2), (0, 0, 0)), (371, (.putfield 270, 3), (11, 62, 124)), (374, (.aload_n 0, 1), (0, 0, 0)), (375, (.bipush 30, 2), (0, 0, 0)), (377, (.newarray .boolean, 2), (0, 0, 0)), (379, (.putfield 273, 3), (11, 63, 126)), (382, (.aload_n 0, 1), (0, 0, 0)), (383, (.bipush 30, 2), (0, 0, 0)), (385, (.newarray .int, 2), (0, 0, 0)), (387, (.putfield 276, 3), (11, 64, 128)), (390, (.aload_n 0, 1), (0, 0, 0)), (391, (.bipush 40, 2), (0, 0, 0)), (393, (.newarray .int, 2), (0, 0, 0)), (395, (.putfield 279, 3), (11, 65, 130)), (398, (.aload_n 0, 1), (0, 0, 0)), (399, (.bipush 18, 2), (0, 0, 0)), (401, (.newarray .int, 2), (0, 0, 0)), (403, (.putfield 282, 3), (11, 66, 132)), (406, (.aload_n 0, 1), (0, 0, 0)), (407, (.iconst 4, 1), (0, 0, 0)), (408, (.newarray .int, 2), (0, 0, 0)), (410, (.putfield 285, 3), (11, 67, 134)), (413, (.aload_n 0, 1), (0, 0, 0)), (414, (.bipush 40, 2), (0, 0, 0)), (416, (.newarray .boolean, 2), (0, 0, 0)), (418, (.putfield 288, 3), (11, 71, 142)), (421, (.aload_n 0, 1), (0, 0, 0)), (422, (.iconst 1, 1), (0, 0, 0)), (423, (.putfield 94, 3), (11, 29, 58)), (426, (.aload_n 0, 1), (0, 0, 0)), (427, (.getfield 97, 3), (11, 14, 28)), (430, (.bipush 11, 2), (0, 0, 0)), (432, (.aload_n 0, 1), (0, 0, 0)), (433, (.getfield 91, 3), (11, 4, 8)), (436, (.imul, 1), (0, 0, 0)), (437, (.ldc2_w 291, 3), (6384748, 1044, 0)), (440, (.lastore, 1), (0, 0, 0)), (441, (.aload_n 0, 1), (0, 0, 0)), (442, (.getfield 134, 3), (11, 16, 32)), (445, (.bipush 11, 2), (0, 0, 0)), (447, (.aload_n 0, 1), (0, 0, 0)), (448, (.getfield 91, 3), (11, 4, 8)), (451, (.imul, 1), (0, 0, 0)), (452, (.iconst (-1), 1), (0, 0, 0)), (453, (.iastore, 1), (0, 0, 0)), (454, (.return_, 1), (0, 0, 0))]
/-- MixfixBenchModel.book -/
def X_c162 : List (Nat × (Jvm.ClassFile.Instr × Nat) × (Nat × Nat × Nat)) := [(0, (.aload_n 0, 1), (0, 0, 0)), (1, (.iconst 0, 1), (0, 0, 0)), (2, (.putfield 11, 3), (11, 5, 10)), (5, (.aload_n 0, 1), (0, 0, 0)), (6, (.iconst (-1), 1), (0, 0, 0)), (7, (.putfield 14, 3), (11, 6, 12)), (10, (.aload_n 0, 1), (0, 0, 0)), (11, (.aload_n 0, 1), (0, 0, 0)), (12, (.getfield 293, 3), (11, 1, 2)), (15, (.putfield 1, 3), (11, 3, 6)), (18, (.iconst 0, 1), (0, 0, 0)), (19, (.istore_n 1, 1), (0, 0, 0)), (20, (.iload_n 1, 1), (0, 0, 0)), (21, (.aload_n 0, 1), (0, 0, 0)), (22, (.getfield 1, 3), (11, 3, 6)), (25, (.if_icmp .ge 21, 3), (0, 0, 0)), (28, (.aload_n 0, 1), (0, 0, 0)), (29, (.getfield 7, 3), (11, 2, 4)), (32, (.iload_n 1, 1), (0, 0, 0)), (33, (.aload_n 0, 1), (0, 0, 0)), (34, (.getfield 188, 3), (11, 0, 0)), (37, (.iload_n 1, 1), (0, 0, 0)), (38, (.baload, 1), (0, 0, 0)), (39, (.bastore, 1), (0, 0, 0)), (40, (.iinc 1 1, 3), (0, 0, 0)), (43, (.goto (-23), 3), (0, 0, 0)), (46, (.aload_n 0, 1), (0, 0, 0)), (47, (.iconst 0, 1), (0, 0, 0)), (48, (.putfield 293, 3), (11, 1, 2)), (51, (.aload_n 0, 1), (0, 0, 0)), (52, (.iconst 0, 1), (0, 0, 0)), (53, (.putfield 17, 3), (11, 8, 16)), (56, (.aload_n 0, 1), (0, 0, 0)), (57, (.iconst 1, 1), (0, 0, 0)), (58, (.aload_n 0, 1), (0, 0, 0)), (59, (.getfield 91, 3), (11, 4, 8)), (62, (.isub, 1), (0, 0, 0)), (63, (.putfield 91, 3), (11, 4, 8)), (66, (.aload_n 0, 1), (0, 0, 0)), (67, (.iconst 0, 1), (0, 0, 0)), (68, (.putfield 84, 3), (11, 28, 56)), (71, (.aload_n 0, 1), (0, 0, 0)), (72, (.iconst 0, 1), (0, 0, 0)), (73, (.putfield 138, 3), (11, 30, 60)), (76, (.aload_n 0, 1), (0, 0, 0)), (77, (.iconst 1, 1), (0, 0, 0)), (78, (.putfield 94, 3), (11, 29, 58)), (81, (.aload_n 0, 1), (0, 0, 0)), (82, (.getfield 97, 3), (11, 14, 28)), (85, (.bipush 11, 2), (0, 0, 0)), (87, (.aload_n 0, 1), (0, 0, 0)), (88, (.getfield 91, 3), (11, 4, 8)), (91, (.imul, 1), (0, 0, 0)), (92, (.ldc2_w 291, 3), (6384748, 1044, 0)), (95, (.lastore, 1), (0, 0, 0)), (96, (.aload_n 0, 1), (0, 0, 0)), (97, (.getfield 134, 3), (11, 16, 32)), (100, (.bipush 11, 2), (0, 0, 0)), (102, (.aload_n 0, 1), (0, 0, 0)), (103, (.getfield 91, 3), (11, 4, 8)), (106, (.imul, 1), (0, 0, 0)), (107, (.iconst (-1), 1), (0, 0, 0)), (108, (.iastore, 1), (0, 0, 0)), (109, (.aload_n 0, 1), (0, 0, 0)), (110, (.invokevirtual 78, 3), (141, 0, 0)), (113, (.aload_n 0, 1), (0, 0, 0)), (114, (.invokevirtual 100, 3), (140, 14, 0)), (117, (.ifCond .eq 213, 3), (0, 0, 0)), (120, (.aload_n 0, 1), (0, 0, 0)), (121, (.getfield 27, 3), (11, 9, 18)), (124, (.ifCond .eq 206, 3), (0, 0, 0)), (127, (.aload_n 0, 1), (0, 0, 0)), (128, (.getfield 27, 3), (11, 9, 18)), (131, (.iconst 3, 1), (0, 0, 0)), (132, (.if_icmp .ne 10, 3), (0, 0, 0)), (135, (.aload_n 0, 1), (0, 0, 0)), (136, (.getfield 41, 3), (11, 12, 24)), (139, (.goto 4, 3), (0, 0, 0)), (142, (.lconst 0, 1), (0, 0, 0)), (143, (.lstore_n 1, 1), (0, 0, 0)), (144, (.lload_n 1, 1), (0, 0, 0)), (145, (.ldc2_w 45, 3), (1918987883, 1285, 0)), (148, (.lcmp, 1), (0, 0, 0)), (149, (.ifCond .ne 20, 3), (0, 0, 0)), (152, (.aload_n 0, 1), (0, 0, 0)), (153, (.getfield 84, 3), (11, 28, 56)), (156, (.bipush 12, 2), (0, 0, 0)), (158, (.if_icmp .ne 7, 3), (0, 0, 0)), (161, (.iconst 1, 1), (0, 0, 0)), (162, (.goto 54, 3), (0, 0, 0)), (165, (.iconst 0, 1), (0, 0, 0)), (166, (.goto 50, 3), (0, 0, 0)), (169, (.lload_n 1, 1), (0, 0, 0)), (170, (.ldc2_w 49, 3), (1802071652, 1287, 0)), (173, (.lcmp, 1), (0, 0, 0)), (174, (.ifCond .ne 20, 3), (0, 0, 0)), (177, (.aload_n 0, 1), (0, 0, 0)), (178, (.getfield 94, 3), (11, 29, 58)), (181, (.bipush 11, 2), (0, 0, 0)), (183, (.if_icmp .ne 7, 3), (0, 0, 0)), (186, (.iconst 1, 1), (0, 0, 0)), (187, (.goto 29, 3), (0, 0, 0)), (190, (.iconst 0, 1), (0, 0, 0)), (191, (.goto 25, 3), (0, 0, 0)), (194, (.lload_n 1, 1), (0, 0, 0)), (195, (.ldc2_w 53, 3), (2003792484, 1289, 0)), (198, (.lcmp, 1), (0, 0, 0)), (199, (.ifCond .ne 16, 3), (0, 0, 0)), (202, (.aload_n 0, 1), (0, 0, 0)), (203, (.getfield 138, 3), (11, 30, 60)), (206, (.bipush 30, 2), (0, 0, 0)), (208, (.if_icmp .ne 7, 3), (0, 0, 0)), (211, (.iconst 1, 1), (0, 0, 0)), (212, (.goto 4, 3), (0, 0, 0)), (215, (.iconst 0, 1), (0, 0, 0)), (216, (.istore_n 3, 1), (0, 0, 0)), (217, (.lload_n 1, 1), (0, 0, 0)), (218, (.ldc2_w 45, 3), (1918987883, 1285, 0)), (221, (.lcmp, 1), (0, 0, 0)), (222, (.ifCond .eq 27, 3), (0, 0, 0)), (225, (.lload_n 1, 1), (0, 0, 0)), (226, (.ldc2_w 47, 3), (32766990153442674, 1286, 0)), (229, (.lcmp, 1), (0, 0, 0)), (230, (.ifCond .eq 19, 3), (0, 0, 0)), (233, (.lload_n 1, 1), (0, 0, 0)), (234, (.ldc2_w 49, 3), (1802071652, 1287, 0)), (237, (.lcmp, 1), (0, 0, 0)), (238, (.ifCond .eq 11, 3), (0, 0, 0)), (241, (.lload_n 1, 1), (0, 0, 0)), (242, (.ldc2_w 53, 3), (2003792484, 1289, 0)), (245, (.lcmp, 1), (0, 0, 0)), (246, (.ifCond .ne 7, 3), (0, 0, 0)), (249, (.iload_n 3, 1), (0, 0, 0)), (250, (.ifCond .eq 7, 3), (0, 0, 0)), (253, (.aload_n 0, 1), (0, 0, 0)), (254, (.invokevirtual 81, 3), (147, 16, 0)), (257, (.aload_n 0, 1), (0, 0, 0)), (258, (.invokevirtual 100, 3), (140, 14, 0)), (261, (.ifCond .eq 7, 3), (0, 0, 0)), (264, (.aload_n 0, 1), (0, 0, 0)), (265, (.invokevirtual 78, 3), (141, 0, 0)), (268, (.aload_n 0, 1), (0, 0, 0)), (269, (.invokevirtual 100, 3), (140, 14, 0)), (272, (.ifCond .ne 6, 3), (0, 0, 0)), (275, (.goto (-162), 3), (0, 0, 0)), (278, (.lload_n 1, 1), (0, 0, 0)), (279, (.ldc2_w 45, 3), (1918987883, 1285, 0)), (282, (.lcmp, 1), (0, 0, 0)), (283, (.ifCond .ne 10, 3), (0, 0, 0)), (286, (.aload_n 0, 1), (0, 0, 0)), (287, (.invokevirtual 296, 3), (153, 20, 0)), (290, (.goto 37, 3), (0, 0, 0)), (293, (.lload_n 1, 1), (0, 0, 0)), (294, (.ldc2_w 47, 3), (32766990153442674, 1286, 0)), (297, (.lcmp, 1), (0, 0, 0)), (298, (.ifCond .ne 10, 3), (0, 0, 0)), (301, (.aload_n 0, 1), (0, 0, 0)), (302, (.invokevirtual 299, 3), (155, 28, 0)), (305, (.goto 22, 3), (0, 0, 0)), (308, (.lload_n 1, 1), (0, 0, 0)), (309, (.ldc2_w 49, 3), (1802071652, 1287, 0)), (312, (.lcmp, 1), (0, 0, 0)), (313, (.ifCond .ne 10, 3), (0, 0, 0)), (316, (.aload_n 0, 1), (0, 0, 0)), (317, (.invokevirtual 302, 3), (156, 34, 0)), (320, (.goto 7, 3), (0, 0, 0)), (323, (.aload_n 0, 1), (0, 0, 0)), (324, (.invokevirtual 305, 3), (157, 42, 0)), (327, (.goto (-214), 3), (0, 0, 0)), (330, (.aload_n 0, 1), (0, 0, 0)), (331, (.invokevirtual 100, 3), (140, 14, 0)), (334, (.ifCond .ne 39, 3), (0, 0, 0)), (337, (.aload_n 0, 1), (0, 0, 0)), (338, (.iconst 1, 1), (0, 0, 0)), (339, (.aload_n 0, 1), (0, 0, 0)), (340, (.getfield 91, 3), (11, 4, 8)), (343, (.isub, 1), (0, 0, 0)), (344, (.putfield 91, 3), (11, 4, 8)), (347, (.aload_n 0, 1), (0, 0, 0)), (348, (.aload_n 0, 1), (0, 0, 0)), (349, (.getfield 308, 3), (11, 31, 62)), (352, (.putfield 84, 3), (11, 28, 56)), (355, (.aload_n 0, 1), (0, 0, 0)), (356, (.aload_n 0, 1), (0, 0, 0)), (357, (.getfield 191, 3), (11, 32, 64)), (360, (.putfield 94, 3), (11, 29, 58)), (363, (.aload_n 0, 1), (0, 0, 0)), (364, (.aload_n 0, 1), (0, 0, 0)), (365, (.getfield 311, 3), (11, 33, 66)), (368, (.putfield 138, 3), (11, 30, 60)), (371, (.iconst (-1), 1), (0, 0, 0)), (372, (.ireturn, 1), (0, 0, 0)), (373, (.aload_n 0, 1), (0, 0, 0)), (374, (.aload_n 0, 1), (0, 0, 0)), (375, (.getfield 84, 3), (11, 28, 56)), (378, (.putfield 308, 3), (11, 31, 62)), (381, (.aload_n 0, 1), (0, 0, 0)), (382, (.aload_n 0, 1), (0, 0, 0)), (383, (.getfield 94, 3), (11, 29, 58)), (386, (.putfield 191, 3), (11, 32, 64)), (389, (.aload_n 0, 1), (0, 0, 0)), (390, (.aload_n 0, 1), (0, 0, 0)), (391, (.getfield 138, 3), (11, 30, 60)), (394, (.putfield 311, 3), (11, 33, 66)), (397, (.aload_n 0, 1), (0, 0, 0)), (398, (.iconst 0, 1), (0, 0, 0)), (399, (.putfield 314, 3), (11, 38, 76)), (402, (.aload_n 0, 1), (0, 0, 0)), (403, (.iconst 0, 1), (0, 0, 0)), (404, (.putfield 317, 3), (11, 49, 98)), (407, (.aload_n 0, 1), (0, 0, 0)), (408, (.iconst 0, 1), (0, 0, 0)), (409, (.putfield 320, 3), (11, 68, 136)), (412, (.iconst 0, 1), (0, 0, 0)), (413, (.istore_n 1, 1), (0, 0, 0)), (414, (.iload_n 1, 1), (0, 0, 0)), (415, (.bipush 30, 2), (0, 0, 0)), (417, (.if_icmp .ge 16, 3), (0, 0, 0)), (420, (.aload_n 0, 1), (0, 0, 0)), (421, (.getfield 273, 3), (11, 63, 126)), (424, (.iload_n 1, 1), (0, 0, 0)), (425, (.iconst 0, 1), (0, 0, 0)), (426, (.bastore, 1), (0, 0, 0)), (427, (.iinc 1 1, 3), (0, 0, 0)), (430, (.goto (-16), 3), (0, 0, 0)), (433, (.aload_n 0, 1), (0, 0, 0)), (434, (.getfield 138, 3), (11, 30, 60)), (437, (.ireturn, 1), (0, 0, 0))]
/-- MixfixBenchModel.fault -/
def X_c163 : List (Nat × (Jvm.ClassFile.Instr × Nat) × (Nat × Nat × Nat)) := [(0, (.iload_n 1, 1), (0, 0, 0)), (1, (.ifCond .ne 10, 3), (0, 0, 0)), (4, (.aload_n 0, 1), (0, 0, 0)), (5, (.getfield 11, 3), (11, 5, 10)), (8, (.goto 16, 3), (0, 0, 0)), (11, (.iload_n 1, 1), (0, 0, 0)), (12, (.iconst 1, 1), (0, 0, 0)), (13, (.if_icmp .ne 10, 3), (0, 0, 0)), (16, (.aload_n 0, 1), (0, 0, 0)), (17, (.getfield 14, 3), (11, 6, 12)), (20, (.goto 4, 3), (0, 0, 0)), (23, (.iconst (-1), 1), (0, 0, 0)), (24, (.ireturn, 1), (0, 0, 0))]
/-- MixfixBenchModel.about -/
def X_c164 : List (Nat × (Jvm.ClassFile.Instr × Nat) × (Nat × Nat × Nat)) := [(0, (.iload_n 1, 1), (0, 0, 0)), (1, (.tableswitch 69 0 5 #[39, 44, 49, 54, 59, 64], 39), (0, 0, 0)), (40, (.aload_n 0, 1), (0, 0, 0)), (41, (.getfield 84, 3), (11, 28, 56)), (44, (.ireturn, 1), (0, 0, 0)), (45, (.aload_n 0, 1), (0, 0, 0)), (46, (.getfield 94, 3), (11, 29, 58)), (49, (.ireturn, 1), (0, 0, 0)), (50, (.aload_n 0, 1), (0, 0, 0)), (51, (.getfield 138, 3), (11, 30, 60)), (54, (.ireturn, 1), (0, 0, 0)), (55, (.aload_n 0, 1), (0, 0, 0)), (56, (.getfield 314, 3), (11, 38, 76)), (59, (.ireturn, 1), (0, 0, 0)), (60, (.aload_n 0, 1), (0, 0, 0)), (61, (.getfield 317, 3), (11, 49, 98)), (64, (.ireturn, 1), (0, 0, 0)), (65, (.aload_n 0, 1), (0, 0, 0)), (66, (.getfield 293, 3), (11, 1, 2)), (69, (.ireturn, 1), (0, 0, 0)), (70, (.iconst (-1), 1), (0, 0, 0)), (71, (.ireturn, 1), (0, 0, 0))]
/-- MixfixBenchModel.isWordNumber -/
def X_c165 : List (Nat × (Jvm.ClassFile.Instr × Nat) × (Nat × Nat × Nat)) := [(0, (.iload_n 1, 1), (0, 0, 0)), (1, (.ifCond .lt 15, 3), (0, 0, 0)), (4, (.iload_n 1, 1), (0, 0, 0)), (5, (.aload_n 0, 1), (0, 0, 0)), (6, (.getfield 138, 3), (11, 30, 60)), (9, (.if_icmp .ge 7, 3), (0, 0, 0)), (12, (.iconst 1, 1), (0, 0, 0)), (13, (.goto 4, 3), (0, 0, 0)), (16, (.iconst 0, 1), (0, 0, 0)), (17, (.ireturn, 1), (0, 0, 0))]
/-- MixfixBenchModel.word -/
def X_c166 : List (Nat × (Jvm.ClassFile.Instr × Nat) × (Nat × Nat × Nat)) := [(0, (.aload_n 0, 1), (0, 0, 0)), (1, (.iload_n 1, 1), (0, 0, 0)), (2, (.invokevirtual 324, 3), (165, 50, 0)), (5, (.ifCond .ne 5, 3), (0, 0, 0)), (8, (.iconst (-1), 1), (0, 0, 0)), (9, (.ireturn, 1), (0, 0, 0)), (10, (.bipush 30, 2), (0, 0, 0)), (12, (.aload_n 0, 1), (0, 0, 0)), (13, (.getfield 91, 3), (11, 4, 8)), (16, (.imul, 1), (0, 0, 0)), (17, (.iload_n 1, 1), (0, 0, 0)), (18, (.iadd, 1), (0, 0, 0)), (19, (.istore_n 3, 1), (0, 0, 0)), (20, (.iload_n 2, 1), (0, 0, 0)), (21, (.tableswitch 91 0 6 #[43, 50, 57, 64, 71, 78, 84], 43), (0, 0, 0)), (64, (.aload_n 0, 1), (0, 0, 0)), (65, (.getfield 141, 3), (11, 17, 34)), (68, (.iload_n 3, 1), (0, 0, 0)), (69, (.iaload, 1), (0, 0, 0)), (70, (.ireturn, 1), (0, 0, 0)), (71, (.aload_n 0, 1), (0, 0, 0)), (72, (.getfield 144, 3), (11, 18, 36)), (75, (.iload_n 3, 1), (0, 0, 0)), (76, (.iaload, 1), (0, 0, 0)), (77, (.ireturn, 1), (0, 0, 0)), (78, (.aload_n 0, 1), (0, 0, 0)), (79, (.getfield 147, 3), (11, 19, 38)), (82, (.iload_n 3, 1), (0, 0, 0)), (83, (.iaload, 1), (0, 0, 0)), (84, (.ireturn, 1), (0, 0, 0)), (85, (.aload_n 0, 1), (0, 0, 0)), (86, (.getfield 150, 3), (11, 20, 40)), (89, (.iload_n 3, 1), (0, 0, 0)), (90, (.iaload, 1), (0, 0, 0)), (91, (.ireturn, 1), (0, 0, 0)), (92, (.aload_n 0, 1), (0, 0, 0)), (93, (.getfield 153, 3), (11, 21, 42)), (96, (.iload_n 3, 1), (0, 0, 0)), (97, (.iaload, 1), (0, 0, 0)), (98, (.ireturn, 1), (0, 0, 0)), (99, (.aload_n 0, 1), (0, 0, 0)), (100, (.iload_n 3, 1), (0, 0, 0)), (101, (.invokevirtual 162, 3), (160, 46, 0)), (104, (.ireturn, 1), (0, 0, 0)), (105, (.aload_n 0, 1), (0, 0, 0)), (106, (.getfield 156, 3), (11, 22, 44)), (109, (.iload_n 3, 1), (0, 0, 0)), (110, (.iaload, 1), (0, 0, 0)), (111, (.ireturn, 1), (0, 0, 0)), (112, (.iconst (-1), 1), (0, 0, 0)), (113, (.ireturn, 1), (0, 0, 0))]
/-- MixfixBenchModel.tighter -/
def X_c167 : List (Nat × (Jvm.ClassFile.Instr × Nat) × (Nat × Nat × Nat)) := [(0, (.iload_n 1, 1), (0, 0, 0)), (1, (.ifCond .lt 23, 3), (0, 0, 0)), (4, (.iload_n 1, 1), (0, 0, 0)), (5, (.aload_n 0, 1), (0, 0, 0)), (6, (.getfield 84, 3), (11, 28, 56)), (9, (.if_icmp .ge 15, 3), (0, 0, 0)), (12, (.iload_n 2, 1), (0, 0, 0)), (13, (.ifCond .lt 11, 3), (0, 0, 0)), (16, (.iload_n 2, 1), (0, 0, 0)), (17, (.aload_n 0, 1), (0, 0, 0)), (18, (.getfield 84, 3), (11, 28, 56)), (21, (.if_icmp .lt 7, 3), (0, 0, 0)), (24, (.iconst (-1), 1), (0, 0, 0)), (25, (.goto 17, 3), (0, 0, 0)), (28, (.aload_n 0, 1), (0, 0, 0)), (29, (.iload_n 1, 1), (0, 0, 0)), (30, (.iload_n 2, 1), (0, 0, 0)), (31, (.invokevirtual 123, 3), (154, 32, 0)), (34, (.ifCond .eq 7, 3), (0, 0, 0)), (37, (.iconst 1, 1), (0, 0, 0)), (38, (.goto 4, 3), (0, 0, 0)), (41, (.iconst 0, 1), (0, 0, 0)), (42, (.ireturn, 1), (0, 0, 0))]
/-- MixfixBenchModel.isUnder -/
def X_c168 : List (Nat × (Jvm.ClassFile.Instr × Nat) × (Nat × Nat × Nat)) := [(0, (.iload_n 1, 1), (0, 0, 0)), (1, (.istore_n 3, 1), (0, 0, 0)), (2, (.iload_n 3, 1), (0, 0, 0)), (3, (.ifCond .lt 26, 3), (0, 0, 0)), (6, (.iload_n 3, 1), (0, 0, 0)), (7, (.iload_n 2, 1), (0, 0, 0)), (8, (.if_icmp .eq 21, 3), (0, 0, 0)), (11, (.aload_n 0, 1), (0, 0, 0)), (12, (.getfield 134, 3), (11, 16, 32)), (15, (.bipush 11, 2), (0, 0, 0)), (17, (.aload_n 0, 1), (0, 0, 0)), (18, (.getfield 91, 3), (11, 4, 8)), (21, (.imul, 1), (0, 0, 0)), (22, (.iload_n 3, 1), (0, 0, 0)), (23, (.iadd, 1), (0, 0, 0)), (24, (.iaload, 1), (0, 0, 0)), (25, (.istore_n 3, 1), (0, 0, 0)), (26, (.goto (-24), 3), (0, 0, 0)), (29, (.iload_n 3, 1), (0, 0, 0)), (30, (.iload_n 2, 1), (0, 0, 0)), (31, (.if_icmp .ne 7, 3), (0, 0, 0)), (34, (.iconst 1, 1), (0, 0, 0)), (35, (.goto 4, 3), (0, 0, 0)), (38, (.iconst 0, 1), (0, 0, 0)), (39, (.ireturn, 1), (0, 0, 0))]
/-- MixfixBenchModel.under -/
def X_c169 : List (Nat × (Jvm.ClassFile.Instr × Nat) × (Nat × Nat × Nat)) := [(0, (.iload_n 1, 1), (0, 0, 0)), (1, (.ifCond .lt 23, 3), (0, 0, 0)), (4, (.iload_n 1, 1), (0, 0, 0)), (5, (.aload_n 0, 1), (0, 0, 0)), (6, (.getfield 94, 3), (11, 29, 58)), (9, (.if_icmp .ge 15, 3), (0, 0, 0)), (12, (.iload_n 2, 1), (0, 0, 0)), (13, (.ifCond .lt 11, 3), (0, 0, 0)), (16, (.iload_n 2, 1), (0, 0, 0)), (17, (.aload_n 0, 1), (0, 0, 0)), (18, (.getfield 94, 3), (11, 29, 58)), (21, (.if_icmp .lt 7, 3), (0, 0, 0)), (24, (.iconst (-1), 1), (0, 0, 0)), (25, (.goto 17, 3), (0, 0, 0)), (28, (.aload_n 0, 1), (0, 0, 0)), (29, (.iload_n 1, 1), (0, 0, 0)), (30, (.iload_n 2, 1), (0, 0, 0)), (31, (.invokevirtual 327, 3), (168, 52, 0)), (34, (.ifCond .eq 7, 3), (0, 0, 0)), (37, (.iconst 1, 1), (0, 0, 0)), (38, (.goto 4, 3), (0, 0, 0)), (41, (.iconst 0, 1), (0, 0, 0)), (42, (.ireturn, 1), (0, 0, 0))]
/-- MixfixBenchModel.sentence -/
def X_c170 : List (Nat × (Jvm.ClassFile.Instr × Nat) × (Nat × Nat × Nat)) := [(0, (.iconst 0, 1), (0, 0, 0)), (1, (.istore_n 1, 1), (0, 0, 0)), (2, (.iconst 0, 1), (0, 0, 0)), (3, (.istore_n 2, 1), (0, 0, 0)), (4, (.aload_n 0, 1), (0, 0, 0)), (5, (.getfield 293, 3), (11, 1, 2)), (8, (.istore_n 3, 1), (0, 0, 0)), (9, (.aload_n 0, 1), (0, 0, 0)), (10, (.iconst 0, 1), (0, 0, 0)), (11, (.putfield 293, 3), (11, 1, 2)), (14, (.iload_n 2, 1), (0, 0, 0)), (15, (.iload_n 3, 1), (0, 0, 0)), (16, (.if_icmp .ge 274, 3), (0, 0, 0)), (19, (.aload_n 0, 1), (0, 0, 0)), (20, (.getfield 188, 3), (11, 0, 0)), (23, (.iload_n 2, 1), (0, 0, 0)), (24, (.baload, 1), (0, 0, 0)), (25, (.sipush 255, 3), (0, 0, 0)), (28, (.iand, 1), (0, 0, 0)), (29, (.istore 4, 2), (0, 0, 0)), (31, (.iload 4, 2), (0, 0, 0)), (33, (.bipush 32, 2), (0, 0, 0)), (35, (.if_icmp .eq 10, 3), (0, 0, 0)), (38, (.iload 4, 2), (0, 0, 0)), (40, (.bipush 10, 2), (0, 0, 0)), (42, (.if_icmp .ne 9, 3), (0, 0, 0)), (45, (.iinc 2 1, 3), (0, 0, 0)), (48, (.goto (-34), 3), (0, 0, 0)), (51, (.iload 4, 2), (0, 0, 0)), (53, (.bipush 33, 2), (0, 0, 0)), (55, (.if_icmp .lt 16, 3), (0, 0, 0)), (58, (.iload 4, 2), (0, 0, 0)), (60, (.bipush 126, 2), (0, 0, 0)), (62, (.if_icmp .gt 9, 3), (0, 0, 0)), (65, (.iload_n 1, 1), (0, 0, 0)), (66, (.bipush 30, 2), (0, 0, 0)), (68, (.if_icmp .ne 5, 3), (0, 0, 0)), (71, (.iconst (-1), 1), (0, 0, 0)), (72, (.ireturn, 1), (0, 0, 0)), (73, (.iload_n 2, 1), (0, 0, 0)), (74, (.istore 5, 2), (0, 0, 0)), (76, (.iinc 2 1, 3), (0, 0, 0)), (79, (.iload 4, 2), (0, 0, 0)), (81, (.bipush 40, 2), (0, 0, 0)), (83, (.if_icmp .eq 73, 3), (0, 0, 0)), (86, (.iload 4, 2), (0, 0, 0)), (88, (.bipush 41, 2), (0, 0, 0)), (90, (.if_icmp .eq 66, 3), (0, 0, 0)), (93, (.iload_n 2, 1), (0, 0, 0)), (94, (.iload_n 3, 1), (0, 0, 0)), (95, (.if_icmp .ge 61, 3), (0, 0, 0)), (98, (.aload_n 0, 1), (0, 0, 0)), (99, (.getfield 188, 3), (11, 0, 0)), (102, (.iload_n 2, 1), (0, 0, 0)), (103, (.baload, 1), (0, 0, 0)), (104, (.sipush 255, 3), (0, 0, 0)), (107, (.iand, 1), (0, 0, 0)), (108, (.bipush 33, 2), (0, 0, 0)), (110, (.if_icmp .lt 46, 3), (0, 0, 0)), (113, (.aload_n 0, 1), (0, 0, 0)), (114, (.getfield 188, 3), (11, 0, 0)), (117, (.iload_n 2, 1), (0, 0, 0)), (118, (.baload, 1), (0, 0, 0)), (119, (.sipush 255, 3), (0, 0, 0)), (122, (.iand, 1), (0, 0, 0)), (123, (.bipush 126, 2), (0, 0, 0)), (125, (.if_icmp .gt 31, 3), (0, 0, 0)), (128, (.aload_n 0, 1), (0, 0, 0)), (129, (.getfield 188, 3), (11, 0, 0)), (132, (.iload_n 2, 1), (0, 0, 0)), (133, (.baload, 1), (0, 0, 0)), (134, (.bipush 40, 2), (0, 0, 0)), (136, (.if_icmp .eq 20, 3), (0, 0, 0)), (139, (.aload_n 0, 1), (0, 0, 0)), (140, (.getfield 188, 3), (11, 0, 0)), (143, (.iload_n 2, 1), (0, 0, 0)), (144, (.baload, 1), (0, 0, 0)), (145, (.bipush 41, 2), (0, 0, 0)), (147, (.if_icmp .eq 9, 3), (0, 0, 0)), (150, (.iinc 2 1, 3), (0, 0, 0)), (153, (.goto (-74), 3), (0, 0, 0)), (156, (.iload_n 2, 1), (0, 0, 0)), (157, (.iload 5, 2), (0, 0, 0)), (159, (.isub, 1), (0, 0, 0)), (160, (.bipush 8, 2), (0, 0, 0)), (162, (.if_icmp .le 5, 3), (0, 0, 0)), (165, (.iconst (-1), 1), (0, 0, 0)), (166, (.ireturn, 1), (0, 0, 0)), (167, (.aload_n 0, 1), (0, 0, 0)), (168, (.getfield 197, 3), (11, 35, 70)), (171, (.iload_n 1, 1), (0, 0, 0)), (172, (.lconst 0, 1), (0, 0, 0)), (173, (.lastore, 1), (0, 0, 0)), (174, (.aload_n 0, 1), (0, 0, 0)), (175, (.getfield 203, 3), (11, 37, 74)), (178, (.iload_n 1, 1), (0, 0, 0)), (179, (.iconst 0, 1), (0, 0, 0)), (180, (.iastore, 1), (0, 0, 0)), (181, (.iconst 1, 1), (0, 0, 0)), (182, (.istore 6, 2), (0, 0, 0)), (184, (.iload 5, 2), (0, 0, 0)), (186, (.istore 7, 2), (0, 0, 0)), (188, (.iload 7, 2), (0, 0, 0)), (190, (.iload_n 2, 1), (0, 0, 0)), (191, (.if_icmp .ge 93, 3), (0, 0, 0)), (194, (.aload_n 0, 1), (0, 0, 0)), (195, (.getfield 197, 3), (11, 35, 70)), (198, (.iload_n 1, 1), (0, 0, 0)), (199, (.aload_n 0, 1), (0, 0, 0)), (200, (.getfield 197, 3), (11, 35, 70)), (203, (.iload_n 1, 1), (0, 0, 0)), (204, (.laload, 1), (0, 0, 0)), (205, (.bipush 8, 2), (0, 0, 0)), (207, (.lshl, 1), (0, 0, 0)), (208, (.aload_n 0, 1), (0, 0, 0)), (209, (.getfield 188, 3), (11, 0, 0)), (212, (.iload 7, 2), (0, 0, 0)), (214, (.baload, 1), (0, 0, 0)), (215, (.i2l, 1), (0, 0, 0)), (216, (.lor, 1), (0, 0, 0)), (217, (.lastore, 1), (0, 0, 0)), (218, (.iload 6, 2), (0, 0, 0)), (220, (.ifCond .eq 20, 3), (0, 0, 0)), (223, (.aload_n 0, 1), (0, 0, 0)), (224, (.getfield 188, 3), (11, 0, 0)), (227, (.iload 7, 2), (0, 0, 0)), (229, (.baload, 1), (0, 0, 0)), (230, (.invokestatic 34, 3), (138, 6, 0)), (233, (.ifCond .eq 7, 3), (0, 0, 0)), (236, (.iconst 1, 1), (0, 0, 0)), (237, (.goto 4, 3), (0, 0, 0)), (240, (.iconst 0, 1), (0, 0, 0)), (241, (.istore 6, 2), (0, 0, 0)), (243, (.aload_n 0, 1), (0, 0, 0)), (244, (.getfield 203, 3), (11, 37, 74)), (247, (.iload_n 1, 1), (0, 0, 0)), (248, (.iload 6, 2), (0, 0, 0)), (250, (.ifCond .eq 26, 3), (0, 0, 0)), (253, (.bipush 10, 2), (0, 0, 0)), (255, (.aload_n 0, 1), (0, 0, 0)), (256, (.getfield 203, 3), (11, 37, 74)), (259, (.iload_n 1, 1), (0, 0, 0)), (260, (.iaload, 1), (0, 0, 0)), (261, (.imul, 1), (0, 0, 0)), (262, (.aload_n 0, 1), (0, 0, 0)), (263, (.getfield 188, 3), (11, 0, 0)), (266, (.iload 7, 2), (0, 0, 0)), (268, (.baload, 1), (0, 0, 0)), (269, (.iadd, 1), (0, 0, 0)), (270, (.bipush 48, 2), (0, 0, 0)), (272, (.isub, 1), (0, 0, 0)), (273, (.goto 4, 3), (0, 0, 0)), (276, (.iconst (-1), 1), (0, 0, 0)), (277, (.iastore, 1), (0, 0, 0)), (278, (.iinc 7 1, 3), (0, 0, 0)), (281, (.goto (-93), 3), (0, 0, 0)), (284, (.iinc 1 1, 3), (0, 0, 0)), (287, (.goto (-273), 3), (0, 0, 0)), (290, (.iconst 0, 1), (0, 0, 0)), (291, (.istore 4, 2), (0, 0, 0)), (293, (.iload 4, 2), (0, 0, 0)), (295, (.iload_n 1, 1), (0, 0, 0)), (296, (.if_icmp .ge 37, 3), (0, 0, 0)), (299, (.aload_n 0, 1), (0, 0, 0)), (300, (.getfield 194, 3), (11, 34, 68)), (303, (.iload 4, 2), (0, 0, 0)), (305, (.aload_n 0, 1), (0, 0, 0)), (306, (.getfield 197, 3), (11, 35, 70)), (309, (.iload 4, 2), (0, 0, 0)), (311, (.laload, 1), (0, 0, 0)), (312, (.lastore, 1), (0, 0, 0)), (313, (.aload_n 0, 1), (0, 0, 0)), (314, (.getfield 200, 3), (11, 36, 72)), (317, (.iload 4, 2), (0, 0, 0)), (319, (.aload_n 0, 1), (0, 0, 0)), (320, (.getfield 203, 3), (11, 37, 74)), (323, (.iload 4, 2), (0, 0, 0)), (325, (.iaload, 1), (0, 0, 0)), (326, (.iastore, 1), (0, 0, 0)), (327, (.iinc 4 1, 3), (0, 0, 0)), (330, (.goto (-37), 3), (0, 0, 0)), (333, (.aload_n 0, 1), (0, 0, 0)), (334, (.iload_n 1, 1), (0, 0, 0)), (335, (.putfield 314, 3), (11, 38, 76)), (338, (.aload_n 0, 1), (0, 0, 0)), (339, (.iconst 0, 1), (0, 0, 0)), (340, (.putfield 317, 3), (11, 49, 98)), (343, (.aload_n 0, 1), (0, 0, 0)), (344, (.iconst 0, 1), (0, 0, 0)), (345, (.putfield 320, 3), (11, 68, 136)), (348, (.aload_n 0, 1), (0, 0, 0)), (349, (.invokevirtual 330, 3), (175, 54, 0)), (352, (.iload_n 1, 1), (0, 0, 0)), (353, (.ireturn, 1), (0, 0, 0))]
/-- MixfixBenchModel.sum -/
def X_c171 : List (Nat × (Jvm.ClassFile.Instr × Nat) × (Nat × Nat × Nat)) := [(0, (.lload_n 0, 1), (0, 0, 0)), (1, (.lconst 0, 1), (0, 0, 0)), (2, (.lcmp, 1), (0, 0, 0)), (3, (.ifCond .lt 17, 3), (0, 0, 0)), (6, (.lload_n 2, 1), (0, 0, 0)), (7, (.lconst 0, 1), (0, 0, 0)), (8, (.lcmp, 1), (0, 0, 0)), (9, (.ifCond .lt 11, 3), (0, 0, 0)), (12, (.lload_n 0, 1), (0, 0, 0)), (13, (.lload_n 2, 1), (0, 0, 0)), (14, (.ladd, 1), (0, 0, 0)), (15, (.lconst 0, 1), (0, 0, 0)), (16, (.lcmp, 1), (0, 0, 0)), (17, (.ifCond .ge 9, 3), (0, 0, 0)), (20, (.ldc2_w 333, 3), (18446744073709551615, 1417, 0)), (23, (.goto 6, 3), (0, 0, 0)), (26, (.lload_n 0, 1), (0, 0, 0)), (27, (.lload_n 2, 1), (0, 0, 0)), (28, (.ladd, 1), (0, 0, 0)), (29, (.lreturn, 1), (0, 0, 0))]
/-- MixfixBenchModel.product -/
def X_c172 : List (Nat × (Jvm.ClassFile.Instr × Nat) × (Nat × Nat × Nat)) := [(0, (.lload_n 0, 1), (0, 0, 0)), (1, (.lconst 0, 1), (0, 0, 0)), (2, (.lcmp, 1), (0, 0, 0)), (3, (.ifCond .eq 9, 3), (0, 0, 0)), (6, (.lload_n 2, 1), (0, 0, 0)), (7, (.lconst 0, 1), (0, 0, 0)), (8, (.lcmp, 1), (0, 0, 0)), (9, (.ifCond .ne 5, 3), (0, 0, 0)), (12, (.lconst 0, 1), (0, 0, 0)), (13, (.lreturn, 1), (0, 0, 0)), (14, (.lload_n 0, 1), (0, 0, 0)), (15, (.lconst 0, 1), (0, 0, 0)), (16, (.lcmp, 1), (0, 0, 0)), (17, (.ifCond .lt 19, 3), (0, 0, 0)), (20, (.lload_n 2, 1), (0, 0, 0)), (21, (.lconst 0, 1), (0, 0, 0)), (22, (.lcmp, 1), (0, 0, 0)), (23, (.ifCond .lt 13, 3), (0, 0, 0)), (26, (.lload_n 0, 1), (0, 0, 0)), (27, (.ldc2_w 335, 3), (9223372036854775807, 1421, 0)), (30, (.lload_n 2, 1), (0, 0, 0)), (31, (.ldiv, 1), (0, 0, 0)), (32, (.lcmp, 1), (0, 0, 0)), (33, (.ifCond .le 9, 3), (0, 0, 0)), (36, (.ldc2_w 333, 3), (18446744073709551615, 1417, 0)), (39, (.goto 6, 3), (0, 0, 0)), (42, (.lload_n 0, 1), (0, 0, 0)), (43, (.lload_n 2, 1), (0, 0, 0)), (44, (.lmul, 1), (0, 0, 0)), (45, (.lreturn, 1), (0, 0, 0))]
/-- MixfixBenchModel.stretch -/
def X_c173 : List (Nat × (Jvm.ClassFile.Instr × Nat) × (Nat × Nat × Nat)) := [(0, (.bipush 31, 2), (0, 0, 0)), (2, (.iload_n 0, 1), (0, 0, 0)), (3, (.imul, 1), (0, 0, 0)), (4, (.iload_n 1, 1), (0, 0, 0)), (5, (.iadd, 1), (0, 0, 0)), (6, (.ireturn, 1), (0, 0, 0))]
/-- MixfixBenchModel.numberKind -/
def X_c174 : List (Nat × (Jvm.ClassFile.Instr × Nat) × (Nat × Nat × Nat)) := [(0, (.aload_n 0, 1), (0, 0, 0)), (1, (.getfield 94, 3), (11, 29, 58)), (4, (.iconst 1, 1), (0, 0, 0)), (5, (.if_icmp .le 7, 3), (0, 0, 0)), (8, (.iconst 1, 1), (0, 0, 0)), (9, (.goto 4, 3), (0, 0, 0)), (12, (.iconst 0, 1), (0, 0, 0)), (13, (.ireturn, 1), (0, 0, 0))]
/-- MixfixBenchModel.countAll -/
def X_c175 : List (Nat × (Jvm.ClassFile.Instr × Nat) × (Nat × Nat × Nat)) := [(0, (.iconst 1, 1), (0, 0, 0)), (1, (.istore_n 1, 1), (0, 0, 0)), (2, (.iload_n 1, 1), (0, 0, 0)), (3, (.aload_n 0, 1), (0, 0, 0)), (4, (.getfield 314, 3), (11, 38, 76)), (7, (.if_icmp .gt 237, 3), (0, 0, 0)), (10, (.iconst 0, 1), (0, 0, 0)), (11, (.istore_n 2, 1), (0, 0, 0)), (12, (.iload_n 2, 1), (0, 0, 0)), (13, (.iload_n 1, 1), (0, 0, 0)), (14, (.iadd, 1), (0, 0, 0)), (15, (.aload_n 0, 1), (0, 0, 0)), (16, (.getfield 314, 3), (11, 38, 76)), (19, (.if_icmp .gt 219, 3), (0, 0, 0)), (22, (.iload_n 2, 1), (0, 0, 0)), (23, (.iload_n 2, 1), (0, 0, 0)), (24, (.iload_n 1, 1), (0, 0, 0)), (25, (.iadd, 1), (0, 0, 0)), (26, (.invokestatic 337, 3), (173, 56, 0)), (29, (.istore_n 3, 1), (0, 0, 0)), (30, (.iconst 0, 1), (0, 0, 0)), (31, (.istore 4, 2), (0, 0, 0)), (33, (.iload 4, 2), (0, 0, 0)), (35, (.aload_n 0, 1), (0, 0, 0)), (36, (.getfield 138, 3), (11, 30, 60)), (39, (.if_icmp .ge 32, 3), (0, 0, 0)), (42, (.aload_n 0, 1), (0, 0, 0)), (43, (.getfield 206, 3), (11, 39, 78)), (46, (.sipush 961, 3), (0, 0, 0)), (49, (.iload 4, 2), (0, 0, 0)), (51, (.imul, 1), (0, 0, 0)), (52, (.iload_n 3, 1), (0, 0, 0)), (53, (.iadd, 1), (0, 0, 0)), (54, (.aload_n 0, 1), (0, 0, 0)), (55, (.iload 4, 2), (0, 0, 0)), (57, (.iload_n 2, 1), (0, 0, 0)), (58, (.iload_n 2, 1), (0, 0, 0)), (59, (.iload_n 1, 1), (0, 0, 0)), (60, (.iadd, 1), (0, 0, 0)), (61, (.invokevirtual 341, 3), (178, 58, 0)), (64, (.lastore, 1), (0, 0, 0)), (65, (.iinc 4 1, 3), (0, 0, 0)), (68, (.goto (-35), 3), (0, 0, 0)), (71, (.iconst 0, 1), (0, 0, 0)), (72, (.istore 4, 2), (0, 0, 0)), (74, (.iload 4, 2), (0, 0, 0)), (76, (.aload_n 0, 1), (0, 0, 0)), (77, (.getfield 94, 3), (11, 29, 58)), (80, (.if_icmp .ge 75, 3), (0, 0, 0)), (83, (.aload_n 0, 1), (0, 0, 0)), (84, (.getfield 209, 3), (11, 40, 80)), (87, (.sipush 961, 3), (0, 0, 0)), (90, (.iload 4, 2), (0, 0, 0)), (92, (.imul, 1), (0, 0, 0)), (93, (.iload_n 3, 1), (0, 0, 0)), (94, (.iadd, 1), (0, 0, 0)), (95, (.iload_n 1, 1), (0, 0, 0)), (96, (.iconst 2, 1), (0, 0, 0)), (97, (.if_icmp .le 50, 3), (0, 0, 0)), (100, (.aload_n 0, 1), (0, 0, 0)), (101, (.getfield 194, 3), (11, 34, 68)), (104, (.iload_n 2, 1), (0, 0, 0)), (105, (.laload, 1), (0, 0, 0)), (106, (.ldc2_w 345, 3), (40, 1422, 0)), (109, (.lcmp, 1), (0, 0, 0)), (110, (.ifCond .ne 37, 3), (0, 0, 0)), (113, (.aload_n 0, 1), (0, 0, 0)), (114, (.getfield 194, 3), (11, 34, 68)), (117, (.iload_n 2, 1), (0, 0, 0)), (118, (.iload_n 1, 1), (0, 0, 0)), (119, (.iadd, 1), (0, 0, 0)), (120, (.iconst 1, 1), (0, 0, 0)), (121, (.isub, 1), (0, 0, 0)), (122, (.laload, 1), (0, 0, 0)), (123, (.ldc2_w 347, 3), (41, 1423, 0)), (126, (.lcmp, 1), (0, 0, 0)), (127, (.ifCond .ne 20, 3), (0, 0, 0)), (130, (.aload_n 0, 1), (0, 0, 0)), (131, (.iload 4, 2), (0, 0, 0)), (133, (.iload_n 2, 1), (0, 0, 0)), (134, (.iconst 1, 1), (0, 0, 0)), (135, (.iadd, 1), (0, 0, 0)), (136, (.iload_n 2, 1), (0, 0, 0)), (137, (.iload_n 1, 1), (0, 0, 0)), (138, (.iadd, 1), (0, 0, 0)), (139, (.iconst 1, 1), (0, 0, 0)), (140, (.isub, 1), (0, 0, 0)), (141, (.invokevirtual 349, 3), (177, 64, 0)), (144, (.goto 4, 3), (0, 0, 0)), (147, (.lconst 0, 1), (0, 0, 0)), (148, (.lastore, 1), (0, 0, 0)), (149, (.iinc 4 1, 3), (0, 0, 0)), (152, (.goto (-78), 3), (0, 0, 0)), (155, (.iconst 0, 1), (0, 0, 0)), (156, (.istore 4, 2), (0, 0, 0)), (158, (.iload 4, 2), (0, 0, 0)), (160, (.aload_n 0, 1), (0, 0, 0)), (161, (.getfield 138, 3), (11, 30, 60)), (164, (.if_icmp .ge 68, 3), (0, 0, 0)), (167, (.iconst 0, 1), (0, 0, 0)), (168, (.istore 5, 2), (0, 0, 0)), (170, (.iload 5, 2), (0, 0, 0)), (172, (.aload_n 0, 1), (0, 0, 0)), (173, (.getfield 153, 3), (11, 21, 42)), (176, (.bipush 30, 2), (0, 0, 0)), (178, (.aload_n 0, 1), (0, 0, 0)), (179, (.getfield 91, 3), (11, 4, 8)), (182, (.imul, 1), (0, 0, 0)), (183, (.iload 4, 2), (0, 0, 0)), (185, (.iadd, 1), (0, 0, 0)), (186, (.iaload, 1), (0, 0, 0)), (187, (.if_icmp .ge 39, 3), (0, 0, 0)), (190, (.aload_n 0, 1), (0, 0, 0)), (191, (.getfield 213, 3), (11, 41, 82)), (194, (.sipush 961, 3), (0, 0, 0)), (197, (.iconst 4, 1), (0, 0, 0)), (198, (.iload 4, 2), (0, 0, 0)), (200, (.imul, 1), (0, 0, 0)), (201, (.iload 5, 2), (0, 0, 0)), (203, (.iadd, 1), (0, 0, 0)), (204, (.imul, 1), (0, 0, 0)), (205, (.iload_n 3, 1), (0, 0, 0)), (206, (.iadd, 1), (0, 0, 0)), (207, (.aload_n 0, 1), (0, 0, 0)), (208, (.iload 4, 2), (0, 0, 0)), (210, (.iload 5, 2), (0, 0, 0)), (212, (.iload_n 2, 1), (0, 0, 0)), (213, (.iload_n 2, 1), (0, 0, 0)), (214, (.iload_n 1, 1), (0, 0, 0)), (215, (.iadd, 1), (0, 0, 0)), (216, (.invokevirtual 352, 3), (181, 70, 0)), (219, (.lastore, 1), (0, 0, 0)), (220, (.iinc 5 1, 3), (0, 0, 0)), (223, (.goto (-53), 3), (0, 0, 0)), (226, (.iinc 4 1, 3), (0, 0, 0)), (229, (.goto (-71), 3), (0, 0, 0)), (232, (.iinc 2 1, 3), (0, 0, 0)), (235, (.goto (-223), 3), (0, 0, 0)), (238, (.iinc 1 1, 3), (0, 0, 0)), (241, (.goto (-239), 3), (0, 0, 0)), (244, (.return_, 1), (0, 0, 0))]
/-- MixfixBenchModel.isNumber -/
def X_c176 : List (Nat × (Jvm.ClassFile.Instr × Nat) × (Nat × Nat × Nat)) := [(0, (.iload_n 2, 1), (0, 0, 0)), (1, (.iload_n 1, 1), (0, 0, 0)), (2, (.iconst 1, 1), (0, 0, 0)), (3, (.iadd, 1), (0, 0, 0)), (4, (.if_icmp .ne 16, 3), (0, 0, 0)), (7, (.aload_n 0, 1), (0, 0, 0)), (8, (.getfield 200, 3), (11, 36, 72)), (11, (.iload_n 1, 1), (0, 0, 0)), (12, (.iaload, 1), (0, 0, 0)), (13, (.ifCond .lt 7, 3), (0, 0, 0)), (16, (.iconst 1, 1), (0, 0, 0)), (17, (.goto 4, 3), (0, 0, 0)), (20, (.iconst 0, 1), (0, 0, 0)), (21, (.ireturn, 1), (0, 0, 0))]
/-- MixfixBenchModel.kindWays -/
def X_c177 : List (Nat × (Jvm.ClassFile.Instr × Nat) × (Nat × Nat × Nat)) := [(0, (.iload_n 2, 1), (0, 0, 0)), (1, (.iload_n 3, 1), (0, 0, 0)), (2, (.invokestatic 337, 3), (173, 56, 0)), (5, (.istore 4, 2), (0, 0, 0)), (7, (.aload_n 0, 1), (0, 0, 0)), (8, (.iload_n 2, 1), (0, 0, 0)), (9, (.iload_n 3, 1), (0, 0, 0)), (10, (.invokevirtual 356, 3), (176, 66, 0)), (13, (.ifCond .eq 15, 3), (0, 0, 0)), (16, (.aload_n 0, 1), (0, 0, 0)), (17, (.invokevirtual 359, 3), (174, 68, 0)), (20, (.iload_n 1, 1), (0, 0, 0)), (21, (.if_icmp .ne 7, 3), (0, 0, 0)), (24, (.lconst 1, 1), (0, 0, 0)), (25, (.goto 4, 3), (0, 0, 0)), (28, (.lconst 0, 1), (0, 0, 0)), (29, (.lstore 5, 2), (0, 0, 0)), (31, (.lload 5, 2), (0, 0, 0)), (33, (.aload_n 0, 1), (0, 0, 0)), (34, (.getfield 209, 3), (11, 40, 80)), (37, (.sipush 961, 3), (0, 0, 0)), (40, (.iload_n 1, 1), (0, 0, 0)), (41, (.imul, 1), (0, 0, 0)), (42, (.iload 4, 2), (0, 0, 0)), (44, (.iadd, 1), (0, 0, 0)), (45, (.laload, 1), (0, 0, 0)), (46, (.invokestatic 362, 3), (171, 60, 0)), (49, (.lstore 5, 2), (0, 0, 0)), (51, (.iconst 0, 1), (0, 0, 0)), (52, (.istore 7, 2), (0, 0, 0)), (54, (.iload 7, 2), (0, 0, 0)), (56, (.aload_n 0, 1), (0, 0, 0)), (57, (.getfield 138, 3), (11, 30, 60)), (60, (.if_icmp .ge 49, 3), (0, 0, 0)), (63, (.aload_n 0, 1), (0, 0, 0)), (64, (.getfield 147, 3), (11, 19, 38)), (67, (.bipush 30, 2), (0, 0, 0)), (69, (.aload_n 0, 1), (0, 0, 0)), (70, (.getfield 91, 3), (11, 4, 8)), (73, (.imul, 1), (0, 0, 0)), (74, (.iload 7, 2), (0, 0, 0)), (76, (.iadd, 1), (0, 0, 0)), (77, (.iaload, 1), (0, 0, 0)), (78, (.iload_n 1, 1), (0, 0, 0)), (79, (.if_icmp .ne 24, 3), (0, 0, 0)), (82, (.lload 5, 2), (0, 0, 0)), (84, (.aload_n 0, 1), (0, 0, 0)), (85, (.getfield 206, 3), (11, 39, 78)), (88, (.sipush 961, 3), (0, 0, 0)), (91, (.iload 7, 2), (0, 0, 0)), (93, (.imul, 1), (0, 0, 0)), (94, (.iload 4, 2), (0, 0, 0)), (96, (.iadd, 1), (0, 0, 0)), (97, (.laload, 1), (0, 0, 0)), (98, (.invokestatic 362, 3), (171, 60, 0)), (101, (.lstore 5, 2), (0, 0, 0)), (103, (.iinc 7 1, 3), (0, 0, 0)), (106, (.goto (-52), 3), (0, 0, 0)), (109, (.lload 5, 2), (0, 0, 0)), (111, (.lreturn, 1), (0, 0, 0))]
/-- MixfixBenchModel.wordWays -/
def X_c178 : List (Nat × (Jvm.ClassFile.Instr × Nat) × (Nat × Nat × Nat)) := [(0, (.bipush 30, 2), (0, 0, 0)), (2, (.aload_n 0, 1), (0, 0, 0)), (3, (.getfield 91, 3), (11, 4, 8)), (6, (.imul, 1), (0, 0, 0)), (7, (.iload_n 1, 1), (0, 0, 0)), (8, (.iadd, 1), (0, 0, 0)), (9, (.istore 4, 2), (0, 0, 0)), (11, (.iload_n 3, 1), (0, 0, 0)), (12, (.iload_n 2, 1), (0, 0, 0)), (13, (.isub, 1), (0, 0, 0)), (14, (.aload_n 0, 1), (0, 0, 0)), (15, (.getfield 150, 3), (11, 20, 40)), (18, (.iload 4, 2), (0, 0, 0)), (20, (.iaload, 1), (0, 0, 0)), (21, (.if_icmp .ge 5, 3), (0, 0, 0)), (24, (.lconst 0, 1), (0, 0, 0)), (25, (.lreturn, 1), (0, 0, 0)), (26, (.iload_n 2, 1), (0, 0, 0)), (27, (.istore 5, 2), (0, 0, 0)), (29, (.iload 5, 2), (0, 0, 0)), (31, (.iload_n 3, 1), (0, 0, 0)), (32, (.if_icmp .gt 27, 3), (0, 0, 0)), (35, (.aload_n 0, 1), (0, 0, 0)), (36, (.getfield 216, 3), (11, 42, 84)), (39, (.iload 5, 2), (0, 0, 0)), (41, (.iload 5, 2), (0, 0, 0)), (43, (.iload_n 2, 1), (0, 0, 0)), (44, (.if_icmp .ne 7, 3), (0, 0, 0)), (47, (.lconst 1, 1), (0, 0, 0)), (48, (.goto 4, 3), (0, 0, 0)), (51, (.lconst 0, 1), (0, 0, 0)), (52, (.lastore, 1), (0, 0, 0)), (53, (.iinc 5 1, 3), (0, 0, 0)), (56, (.goto (-27), 3), (0, 0, 0)), (59, (.iconst 0, 1), (0, 0, 0)), (60, (.istore 5, 2), (0, 0, 0)), (62, (.iload 5, 2), (0, 0, 0)), (64, (.aload_n 0, 1), (0, 0, 0)), (65, (.getfield 150, 3), (11, 20, 40)), (68, (.iload 4, 2), (0, 0, 0)), (70, (.iaload, 1), (0, 0, 0)), (71, (.if_icmp .ge 251, 3), (0, 0, 0)), (74, (.aload_n 0, 1), (0, 0, 0)), (75, (.getfield 168, 3), (11, 25, 50)), (78, (.bipush 8, 2), (0, 0, 0)), (80, (.iload 4, 2), (0, 0, 0)), (82, (.imul, 1), (0, 0, 0)), (83, (.iload 5, 2), (0, 0, 0)), (85, (.iadd, 1), (0, 0, 0)), (86, (.laload, 1), (0, 0, 0)), (87, (.lstore 6, 2), (0, 0, 0)), (89, (.iload_n 2, 1), (0, 0, 0)), (90, (.istore 8, 2), (0, 0, 0)), (92, (.iload 8, 2), (0, 0, 0)), (94, (.iload_n 3, 1), (0, 0, 0)), (95, (.if_icmp .gt 17, 3), (0, 0, 0)), (98, (.aload_n 0, 1), (0, 0, 0)), (99, (.getfield 219, 3), (11, 43, 86)), (102, (.iload 8, 2), (0, 0, 0)), (104, (.lconst 0, 1), (0, 0, 0)), (105, (.lastore, 1), (0, 0, 0)), (106, (.iinc 8 1, 3), (0, 0, 0)), (109, (.goto (-17), 3), (0, 0, 0)), (112, (.iload_n 2, 1), (0, 0, 0)), (113, (.istore 8, 2), (0, 0, 0)), (115, (.iload 8, 2), (0, 0, 0)), (117, (.iload_n 3, 1), (0, 0, 0)), (118, (.if_icmp .ge 169, 3), (0, 0, 0)), (121, (.aload_n 0, 1), (0, 0, 0)), (122, (.getfield 216, 3), (11, 42, 84)), (125, (.iload 8, 2), (0, 0, 0)), (127, (.laload, 1), (0, 0, 0)), (128, (.lconst 0, 1), (0, 0, 0)), (129, (.lcmp, 1), (0, 0, 0)), (130, (.ifCond .ne 6, 3), (0, 0, 0)), (133, (.goto 148, 3), (0, 0, 0)), (136, (.lload 6, 2), (0, 0, 0)), (138, (.lconst 0, 1), (0, 0, 0)), (139, (.lcmp, 1), (0, 0, 0)), (140, (.ifCond .eq 47, 3), (0, 0, 0)), (143, (.aload_n 0, 1), (0, 0, 0)), (144, (.getfield 194, 3), (11, 34, 68)), (147, (.iload 8, 2), (0, 0, 0)), (149, (.laload, 1), (0, 0, 0)), (150, (.lload 6, 2), (0, 0, 0)), (152, (.lcmp, 1), (0, 0, 0)), (153, (.ifCond .ne 128, 3), (0, 0, 0)), (156, (.aload_n 0, 1), (0, 0, 0)), (157, (.getfield 219, 3), (11, 43, 86)), (160, (.iload 8, 2), (0, 0, 0)), (162, (.iconst 1, 1), (0, 0, 0)), (163, (.iadd, 1), (0, 0, 0)), (164, (.aload_n 0, 1), (0, 0, 0)), (165, (.getfield 219, 3), (11, 43, 86)), (168, (.iload 8, 2), (0, 0, 0)), (170, (.iconst 1, 1), (0, 0, 0)), (171, (.iadd, 1), (0, 0, 0)), (172, (.laload, 1), (0, 0, 0)), (173, (.aload_n 0, 1), (0, 0, 0)), (174, (.getfield 216, 3), (11, 42, 84)), (177, (.iload 8, 2), (0, 0, 0)), (179, (.laload, 1), (0, 0, 0)), (180, (.invokestatic 362, 3), (171, 60, 0)), (183, (.lastore, 1), (0, 0, 0)), (184, (.goto 97, 3), (0, 0, 0)), (187, (.iconst 4, 1), (0, 0, 0)), (188, (.iload_n 1, 1), (0, 0, 0)), (189, (.imul, 1), (0, 0, 0)), (190, (.aload_n 0, 1), (0, 0, 0)), (191, (.getfield 171, 3), (11, 26, 52)), (194, (.bipush 8, 2), (0, 0, 0)), (196, (.iload 4, 2), (0, 0, 0)), (198, (.imul, 1), (0, 0, 0)), (199, (.iload 5, 2), (0, 0, 0)), (201, (.iadd, 1), (0, 0, 0)), (202, (.iaload, 1), (0, 0, 0)), (203, (.iadd, 1), (0, 0, 0)), (204, (.istore 9, 2), (0, 0, 0)), (206, (.iload 8, 2), (0, 0, 0)), (208, (.iconst 1, 1), (0, 0, 0)), (209, (.iadd, 1), (0, 0, 0)), (210, (.istore 10, 2), (0, 0, 0)), (212, (.iload 10, 2), (0, 0, 0)), (214, (.iload_n 3, 1), (0, 0, 0)), (215, (.if_icmp .gt 66, 3), (0, 0, 0)), (218, (.iload 10, 2), (0, 0, 0)), (220, (.iload 8, 2), (0, 0, 0)), (222, (.isub, 1), (0, 0, 0)), (223, (.iload_n 3, 1), (0, 0, 0)), (224, (.iload_n 2, 1), (0, 0, 0)), (225, (.isub, 1), (0, 0, 0)), (226, (.if_icmp .ge 55, 3), (0, 0, 0)), (229, (.aload_n 0, 1), (0, 0, 0)), (230, (.getfield 219, 3), (11, 43, 86)), (233, (.iload 10, 2), (0, 0, 0)), (235, (.aload_n 0, 1), (0, 0, 0)), (236, (.getfield 219, 3), (11, 43, 86)), (239, (.iload 10, 2), (0, 0, 0)), (241, (.laload, 1), (0, 0, 0)), (242, (.aload_n 0, 1), (0, 0, 0)), (243, (.getfield 216, 3), (11, 42, 84)), (246, (.iload 8, 2), (0, 0, 0)), (248, (.laload, 1), (0, 0, 0)), (249, (.aload_n 0, 1), (0, 0, 0)), (250, (.getfield 213, 3), (11, 41, 82)), (253, (.sipush 961, 3), (0, 0, 0)), (256, (.iload 9, 2), (0, 0, 0)), (258, (.imul, 1), (0, 0, 0)), (259, (.iload 8, 2), (0, 0, 0)), (261, (.iload 10, 2), (0, 0, 0)), (263, (.invokestatic 337, 3), (173, 56, 0)), (266, (.iadd, 1), (0, 0, 0)), (267, (.laload, 1), (0, 0, 0)), (268, (.invokestatic 366, 3), (172, 62, 0)), (271, (.invokestatic 362, 3), (171, 60, 0)), (274, (.lastore, 1), (0, 0, 0)), (275, (.iinc 10 1, 3), (0, 0, 0)), (278, (.goto (-66), 3), (0, 0, 0)), (281, (.iinc 8 1, 3), (0, 0, 0)), (284, (.goto (-169), 3), (0, 0, 0)), (287, (.iload_n 2, 1), (0, 0, 0)), (288, (.istore 8, 2), (0, 0, 0)), (290, (.iload 8, 2), (0, 0, 0)), (292, (.iload_n 3, 1), (0, 0, 0)), (293, (.if_icmp .gt 23, 3), (0, 0, 0)), (296, (.aload_n 0, 1), (0, 0, 0)), (297, (.getfield 216, 3), (11, 42, 84)), (300, (.iload 8, 2), (0, 0, 0)), (302, (.aload_n 0, 1), (0, 0, 0)), (303, (.getfield 219, 3), (11, 43, 86)), (306, (.iload 8, 2), (0, 0, 0)), (308, (.laload, 1), (0, 0, 0)), (309, (.lastore, 1), (0, 0, 0)), (310, (.iinc 8 1, 3), (0, 0, 0)), (313, (.goto (-23), 3), (0, 0, 0)), (316, (.iinc 5 1, 3), (0, 0, 0)), (319, (.goto (-257), 3), (0, 0, 0)), (322, (.aload_n 0, 1), (0, 0, 0)), (323, (.getfield 216, 3), (11, 42, 84)), (326, (.iload_n 3, 1), (0, 0, 0)), (327, (.laload, 1), (0, 0, 0)), (328, (.lreturn, 1), (0, 0, 0))]
/-- MixfixBenchModel.letsRank -/
def X_c179 : List (Nat × (Jvm.ClassFile.Instr × Nat) × (Nat × Nat × Nat)) := [(0, (.bipush 30, 2), (0, 0, 0)), (2, (.aload_n 0, 1), (0, 0, 0)), (3, (.getfield 91, 3), (11, 4, 8)), (6, (.imul, 1), (0, 0, 0)), (7, (.iload_n 3, 1), (0, 0, 0)), (8, (.iadd, 1), (0, 0, 0)), (9, (.istore 4, 2), (0, 0, 0)), (11, (.iload_n 2, 1), (0, 0, 0)), (12, (.ifCond .eq 12, 3), (0, 0, 0)), (15, (.aload_n 0, 1), (0, 0, 0)), (16, (.iload 4, 2), (0, 0, 0)), (18, (.invokevirtual 162, 3), (160, 46, 0)), (21, (.ifCond .ne 5, 3), (0, 0, 0)), (24, (.iconst 1, 1), (0, 0, 0)), (25, (.ireturn, 1), (0, 0, 0)), (26, (.bipush 30, 2), (0, 0, 0)), (28, (.aload_n 0, 1), (0, 0, 0)), (29, (.getfield 91, 3), (11, 4, 8)), (32, (.imul, 1), (0, 0, 0)), (33, (.iload_n 1, 1), (0, 0, 0)), (34, (.iadd, 1), (0, 0, 0)), (35, (.istore 5, 2), (0, 0, 0)), (37, (.aload_n 0, 1), (0, 0, 0)), (38, (.aload_n 0, 1), (0, 0, 0)), (39, (.getfield 141, 3), (11, 17, 34)), (42, (.iload 4, 2), (0, 0, 0)), (44, (.iaload, 1), (0, 0, 0)), (45, (.aload_n 0, 1), (0, 0, 0)), (46, (.getfield 141, 3), (11, 17, 34)), (49, (.iload 5, 2), (0, 0, 0)), (51, (.iaload, 1), (0, 0, 0)), (52, (.invokevirtual 123, 3), (154, 32, 0)), (55, (.ifCond .ne 31, 3), (0, 0, 0)), (58, (.aload_n 0, 1), (0, 0, 0)), (59, (.getfield 141, 3), (11, 17, 34)), (62, (.iload 4, 2), (0, 0, 0)), (64, (.iaload, 1), (0, 0, 0)), (65, (.aload_n 0, 1), (0, 0, 0)), (66, (.getfield 141, 3), (11, 17, 34)), (69, (.iload 5, 2), (0, 0, 0)), (71, (.iaload, 1), (0, 0, 0)), (72, (.if_icmp .ne 18, 3), (0, 0, 0)), (75, (.aload_n 0, 1), (0, 0, 0)), (76, (.getfield 144, 3), (11, 18, 36)), (79, (.iload 5, 2), (0, 0, 0)), (81, (.iaload, 1), (0, 0, 0)), (82, (.iload_n 2, 1), (0, 0, 0)), (83, (.if_icmp .ne 7, 3), (0, 0, 0)), (86, (.iconst 1, 1), (0, 0, 0)), (87, (.goto 4, 3), (0, 0, 0)), (90, (.iconst 0, 1), (0, 0, 0)), (91, (.ireturn, 1), (0, 0, 0))]
/-- MixfixBenchModel.endOf -/
def X_c180 : List (Nat × (Jvm.ClassFile.Instr × Nat) × (Nat × Nat × Nat)) := [(0, (.bipush 30, 2), (0, 0, 0)), (2, (.aload_n 0, 1), (0, 0, 0)), (3, (.getfield 91, 3), (11, 4, 8)), (6, (.imul, 1), (0, 0, 0)), (7, (.iload_n 1, 1), (0, 0, 0)), (8, (.iadd, 1), (0, 0, 0)), (9, (.istore_n 3, 1), (0, 0, 0)), (10, (.iload_n 2, 1), (0, 0, 0)), (11, (.ifCond .ne 19, 3), (0, 0, 0)), (14, (.aload_n 0, 1), (0, 0, 0)), (15, (.getfield 168, 3), (11, 25, 50)), (18, (.bipush 8, 2), (0, 0, 0)), (20, (.iload_n 3, 1), (0, 0, 0)), (21, (.imul, 1), (0, 0, 0)), (22, (.laload, 1), (0, 0, 0)), (23, (.lconst 0, 1), (0, 0, 0)), (24, (.lcmp, 1), (0, 0, 0)), (25, (.ifCond .ne 5, 3), (0, 0, 0)), (28, (.iconst 1, 1), (0, 0, 0)), (29, (.ireturn, 1), (0, 0, 0)), (30, (.iload_n 2, 1), (0, 0, 0)), (31, (.aload_n 0, 1), (0, 0, 0)), (32, (.getfield 153, 3), (11, 21, 42)), (35, (.iload_n 3, 1), (0, 0, 0)), (36, (.iaload, 1), (0, 0, 0)), (37, (.iconst 1, 1), (0, 0, 0)), (38, (.isub, 1), (0, 0, 0)), (39, (.if_icmp .ne 30, 3), (0, 0, 0)), (42, (.aload_n 0, 1), (0, 0, 0)), (43, (.getfield 168, 3), (11, 25, 50)), (46, (.bipush 8, 2), (0, 0, 0)), (48, (.iload_n 3, 1), (0, 0, 0)), (49, (.imul, 1), (0, 0, 0)), (50, (.aload_n 0, 1), (0, 0, 0)), (51, (.getfield 150, 3), (11, 20, 40)), (54, (.iload_n 3, 1), (0, 0, 0)), (55, (.iaload, 1), (0, 0, 0)), (56, (.iadd, 1), (0, 0, 0)), (57, (.iconst 1, 1), (0, 0, 0)), (58, (.isub, 1), (0, 0, 0)), (59, (.laload, 1), (0, 0, 0)), (60, (.lconst 0, 1), (0, 0, 0)), (61, (.lcmp, 1), (0, 0, 0)), (62, (.ifCond .ne 7, 3), (0, 0, 0)), (65, (.iconst 2, 1), (0, 0, 0)), (66, (.goto 4, 3), (0, 0, 0)), (69, (.iconst 0, 1), (0, 0, 0)), (70, (.ireturn, 1), (0, 0, 0))]
/-- MixfixBenchModel.holeWays -/
def X_c181 : List (Nat × (Jvm.ClassFile.Instr × Nat) × (Nat × Nat × Nat)) := [(0, (.iload_n 3, 1), (0, 0, 0)), (1, (.iload 4, 2), (0, 0, 0)), (3, (.invokestatic 337, 3), (173, 56, 0)), (6, (.istore 5, 2), (0, 0, 0)), (8, (.aload_n 0, 1), (0, 0, 0)), (9, (.getfield 174, 3), (11, 27, 54)), (12, (.iconst 4, 1), (0, 0, 0)), (13, (.bipush 30, 2), (0, 0, 0)), (15, (.aload_n 0, 1), (0, 0, 0)), (16, (.getfield 91, 3), (11, 4, 8)), (19, (.imul, 1), (0, 0, 0)), (20, (.iload_n 1, 1), (0, 0, 0)), (21, (.iadd, 1), (0, 0, 0)), (22, (.imul, 1), (0, 0, 0)), (23, (.iload_n 2, 1), (0, 0, 0)), (24, (.iadd, 1), (0, 0, 0)), (25, (.iaload, 1), (0, 0, 0)), (26, (.istore 6, 2), (0, 0, 0)), (28, (.aload_n 0, 1), (0, 0, 0)), (29, (.iload_n 1, 1), (0, 0, 0)), (30, (.iload_n 2, 1), (0, 0, 0)), (31, (.invokevirtual 369, 3), (180, 72, 0)), (34, (.istore 7, 2), (0, 0, 0)), (36, (.aload_n 0, 1), (0, 0, 0)), (37, (.iload_n 3, 1), (0, 0, 0)), (38, (.iload 4, 2), (0, 0, 0)), (40, (.invokevirtual 356, 3), (176, 66, 0)), (43, (.ifCond .eq 20, 3), (0, 0, 0)), (46, (.aload_n 0, 1), (0, 0, 0)), (47, (.aload_n 0, 1), (0, 0, 0)), (48, (.invokevirtual 359, 3), (174, 68, 0)), (51, (.iload 6, 2), (0, 0, 0)), (53, (.invokevirtual 327, 3), (168, 52, 0)), (56, (.ifCond .eq 7, 3), (0, 0, 0)), (59, (.lconst 1, 1), (0, 0, 0)), (60, (.goto 4, 3), (0, 0, 0)), (63, (.lconst 0, 1), (0, 0, 0)), (64, (.lstore 8, 2), (0, 0, 0)), (66, (.iconst 0, 1), (0, 0, 0)), (67, (.istore 10, 2), (0, 0, 0)), (69, (.iload 10, 2), (0, 0, 0)), (71, (.aload_n 0, 1), (0, 0, 0)), (72, (.getfield 94, 3), (11, 29, 58)), (75, (.if_icmp .ge 41, 3), (0, 0, 0)), (78, (.aload_n 0, 1), (0, 0, 0)), (79, (.iload 10, 2), (0, 0, 0)), (81, (.iload 6, 2), (0, 0, 0)), (83, (.invokevirtual 327, 3), (168, 52, 0)), (86, (.ifCond .eq 24, 3), (0, 0, 0)), (89, (.lload 8, 2), (0, 0, 0)), (91, (.aload_n 0, 1), (0, 0, 0)), (92, (.getfield 209, 3), (11, 40, 80)), (95, (.sipush 961, 3), (0, 0, 0)), (98, (.iload 10, 2), (0, 0, 0)), (100, (.imul, 1), (0, 0, 0)), (101, (.iload 5, 2), (0, 0, 0)), (103, (.iadd, 1), (0, 0, 0)), (104, (.laload, 1), (0, 0, 0)), (105, (.invokestatic 362, 3), (171, 60, 0)), (108, (.lstore 8, 2), (0, 0, 0)), (110, (.iinc 10 1, 3), (0, 0, 0)), (113, (.goto (-44), 3), (0, 0, 0)), (116, (.iconst 0, 1), (0, 0, 0)), (117, (.istore 10, 2), (0, 0, 0)), (119, (.iload 10, 2), (0, 0, 0)), (121, (.aload_n 0, 1), (0, 0, 0)), (122, (.getfield 138, 3), (11, 30, 60)), (125, (.if_icmp .ge 66, 3), (0, 0, 0)), (128, (.aload_n 0, 1), (0, 0, 0)), (129, (.aload_n 0, 1), (0, 0, 0)), (130, (.getfield 147, 3), (11, 19, 38)), (133, (.bipush 30, 2), (0, 0, 0)), (135, (.aload_n 0, 1), (0, 0, 0)), (136, (.getfield 91, 3), (11, 4, 8)), (139, (.imul, 1), (0, 0, 0)), (140, (.iload 10, 2), (0, 0, 0)), (142, (.iadd, 1), (0, 0, 0)), (143, (.iaload, 1), (0, 0, 0)), (144, (.iload 6, 2), (0, 0, 0)), (146, (.invokevirtual 327, 3), (168, 52, 0)), (149, (.ifCond .eq 36, 3), (0, 0, 0)), (152, (.aload_n 0, 1), (0, 0, 0)), (153, (.iload_n 1, 1), (0, 0, 0)), (154, (.iload 7, 2), (0, 0, 0)), (156, (.iload 10, 2), (0, 0, 0)), (158, (.invokevirtual 372, 3), (179, 74, 0)), (161, (.ifCond .eq 24, 3), (0, 0, 0)), (164, (.lload 8, 2), (0, 0, 0)), (166, (.aload_n 0, 1), (0, 0, 0)), (167, (.getfield 206, 3), (11, 39, 78)), (170, (.sipush 961, 3), (0, 0, 0)), (173, (.iload 10, 2), (0, 0, 0)), (175, (.imul, 1), (0, 0, 0)), (176, (.iload 5, 2), (0, 0, 0)), (178, (.iadd, 1), (0, 0, 0)), (179, (.laload, 1), (0, 0, 0)), (180, (.invokestatic 362, 3), (171, 60, 0)), (183, (.lstore 8, 2), (0, 0, 0)), (185, (.iinc 10 1, 3), (0, 0, 0)), (188, (.goto (-69), 3), (0, 0, 0)), (191, (.lload 8, 2), (0, 0, 0)), (193, (.lreturn, 1), (0, 0, 0))]
/-- MixfixBenchModel.allWays -/
def X_c182 : List (Nat × (Jvm.ClassFile.Instr × Nat) × (Nat × Nat × Nat)) := [(0, (.lconst 0, 1), (0, 0, 0)), (1, (.lstore_n 3, 1), (0, 0, 0)), (2, (.iconst 0, 1), (0, 0, 0)), (3, (.istore 5, 2), (0, 0, 0)), (5, (.iload 5, 2), (0, 0, 0)), (7, (.aload_n 0, 1), (0, 0, 0)), (8, (.getfield 94, 3), (11, 29, 58)), (11, (.if_icmp .ge 22, 3), (0, 0, 0)), (14, (.lload_n 3, 1), (0, 0, 0)), (15, (.aload_n 0, 1), (0, 0, 0)), (16, (.iload 5, 2), (0, 0, 0)), (18, (.iload_n 1, 1), (0, 0, 0)), (19, (.iload_n 2, 1), (0, 0, 0)), (20, (.invokevirtual 349, 3), (177, 64, 0)), (23, (.invokestatic 362, 3), (171, 60, 0)), (26, (.lstore_n 3, 1), (0, 0, 0)), (27, (.iinc 5 1, 3), (0, 0, 0)), (30, (.goto (-25), 3), (0, 0, 0)), (33, (.lload_n 3, 1), (0, 0, 0)), (34, (.lreturn, 1), (0, 0, 0))]
/-- MixfixBenchModel.count -/
def X_c183 : List (Nat × (Jvm.ClassFile.Instr × Nat) × (Nat × Nat × Nat)) := [(0, (.iload_n 1, 1), (0, 0, 0)), (1, (.ifCond .lt 16, 3), (0, 0, 0)), (4, (.iload_n 2, 1), (0, 0, 0)), (5, (.aload_n 0, 1), (0, 0, 0)), (6, (.getfield 314, 3), (11, 38, 76)), (9, (.if_icmp .gt 8, 3), (0, 0, 0)), (12, (.iload_n 1, 1), (0, 0, 0)), (13, (.iload_n 2, 1), (0, 0, 0)), (14, (.if_icmp .lt 5, 3), (0, 0, 0)), (17, (.lconst 0, 1), (0, 0, 0)), (18, (.lreturn, 1), (0, 0, 0)), (19, (.aload_n 0, 1), (0, 0, 0)), (20, (.iload_n 1, 1), (0, 0, 0)), (21, (.iload_n 2, 1), (0, 0, 0)), (22, (.invokevirtual 376, 3), (182, 76, 0)), (25, (.lstore_n 3, 1), (0, 0, 0)), (26, (.lload_n 3, 1), (0, 0, 0)), (27, (.lconst 0, 1), (0, 0, 0)), (28, (.lcmp, 1), (0, 0, 0)), (29, (.ifCond .ge 9, 3), (0, 0, 0)), (32, (.ldc2_w 380, 3), (18446744073709551614, 1456, 0)), (35, (.goto 4, 3), (0, 0, 0)), (38, (.lload_n 3, 1), (0, 0, 0)), (39, (.lreturn, 1), (0, 0, 0))]
/-- MixfixBenchModel.quarrel -/
def X_c184 : List (Nat × (Jvm.ClassFile.Instr × Nat) × (Nat × Nat × Nat)) := [(0, (.iconst 1, 1), (0, 0, 0)), (1, (.istore_n 1, 1), (0, 0, 0)), (2, (.iload_n 1, 1), (0, 0, 0)), (3, (.aload_n 0, 1), (0, 0, 0)), (4, (.getfield 314, 3), (11, 38, 76)), (7, (.if_icmp .gt 55, 3), (0, 0, 0)), (10, (.iconst 0, 1), (0, 0, 0)), (11, (.istore_n 2, 1), (0, 0, 0)), (12, (.iload_n 2, 1), (0, 0, 0)), (13, (.iload_n 1, 1), (0, 0, 0)), (14, (.iadd, 1), (0, 0, 0)), (15, (.aload_n 0, 1), (0, 0, 0)), (16, (.getfield 314, 3), (11, 38, 76)), (19, (.if_icmp .gt 37, 3), (0, 0, 0)), (22, (.aload_n 0, 1), (0, 0, 0)), (23, (.iload_n 2, 1), (0, 0, 0)), (24, (.iload_n 2, 1), (0, 0, 0)), (25, (.iload_n 1, 1), (0, 0, 0)), (26, (.iadd, 1), (0, 0, 0)), (27, (.invokevirtual 376, 3), (182, 76, 0)), (30, (.lstore_n 3, 1), (0, 0, 0)), (31, (.lload_n 3, 1), (0, 0, 0)), (32, (.lconst 0, 1), (0, 0, 0)), (33, (.lcmp, 1), (0, 0, 0)), (34, (.ifCond .lt 9, 3), (0, 0, 0)), (37, (.lload_n 3, 1), (0, 0, 0)), (38, (.lconst 1, 1), (0, 0, 0)), (39, (.lcmp, 1), (0, 0, 0)), (40, (.ifCond .le 10, 3), (0, 0, 0)), (43, (.bipush 100, 2), (0, 0, 0)), (45, (.iload_n 2, 1), (0, 0, 0)), (46, (.imul, 1), (0, 0, 0)), (47, (.iload_n 1, 1), (0, 0, 0)), (48, (.iadd, 1), (0, 0, 0)), (49, (.ireturn, 1), (0, 0, 0)), (50, (.iinc 2 1, 3), (0, 0, 0)), (53, (.goto (-41), 3), (0, 0, 0)), (56, (.iinc 1 1, 3), (0, 0, 0)), (59, (.goto (-57), 3), (0, 0, 0)), (62, (.iconst (-1), 1), (0, 0, 0)), (63, (.ireturn, 1), (0, 0, 0))]
/-- MixfixBenchModel.pile -/
def X_c185 : List (Nat × (Jvm.ClassFile.Instr × Nat) × (Nat × Nat × Nat)) := [(0, (.aload_n 0, 1), (0, 0, 0)), (1, (.getfield 237, 3), (11, 50, 100)), (4, (.aload_n 0, 1), (0, 0, 0)), (5, (.getfield 382, 3), (11, 58, 116)), (8, (.iload_n 1, 1), (0, 0, 0)), (9, (.iastore, 1), (0, 0, 0)), (10, (.aload_n 0, 1), (0, 0, 0)), (11, (.getfield 240, 3), (11, 51, 102)), (14, (.aload_n 0, 1), (0, 0, 0)), (15, (.getfield 382, 3), (11, 58, 116)), (18, (.iload_n 2, 1), (0, 0, 0)), (19, (.iastore, 1), (0, 0, 0)), (20, (.aload_n 0, 1), (0, 0, 0)), (21, (.getfield 243, 3), (11, 52, 104)), (24, (.aload_n 0, 1), (0, 0, 0)), (25, (.getfield 382, 3), (11, 58, 116)), (28, (.iload_n 3, 1), (0, 0, 0)), (29, (.iastore, 1), (0, 0, 0)), (30, (.aload_n 0, 1), (0, 0, 0)), (31, (.getfield 246, 3), (11, 53, 106)), (34, (.aload_n 0, 1), (0, 0, 0)), (35, (.getfield 382, 3), (11, 58, 116)), (38, (.iload 4, 2), (0, 0, 0)), (40, (.iastore, 1), (0, 0, 0)), (41, (.aload_n 0, 1), (0, 0, 0)), (42, (.getfield 249, 3), (11, 54, 108)), (45, (.aload_n 0, 1), (0, 0, 0)), (46, (.getfield 382, 3), (11, 58, 116)), (49, (.iload 5, 2), (0, 0, 0)), (51, (.iastore, 1), (0, 0, 0)), (52, (.aload_n 0, 1), (0, 0, 0)), (53, (.getfield 258, 3), (11, 57, 114)), (56, (.aload_n 0, 1), (0, 0, 0)), (57, (.getfield 382, 3), (11, 58, 116)), (60, (.lload 6, 2), (0, 0, 0)), (62, (.lastore, 1), (0, 0, 0)), (63, (.aload_n 0, 1), (0, 0, 0)), (64, (.getfield 252, 3), (11, 55, 110)), (67, (.aload_n 0, 1), (0, 0, 0)), (68, (.getfield 382, 3), (11, 58, 116)), (71, (.iload 8, 2), (0, 0, 0)), (73, (.iastore, 1), (0, 0, 0)), (74, (.aload_n 0, 1), (0, 0, 0)), (75, (.getfield 255, 3), (11, 56, 112)), (78, (.aload_n 0, 1), (0, 0, 0)), (79, (.getfield 382, 3), (11, 58, 116)), (82, (.iload 9, 2), (0, 0, 0)), (84, (.iastore, 1), (0, 0, 0)), (85, (.aload_n 0, 1), (0, 0, 0)), (86, (.dup, 1), (0, 0, 0)), (87, (.getfield 382, 3), (11, 58, 116)), (90, (.iconst 1, 1), (0, 0, 0)), (91, (.iadd, 1), (0, 0, 0)), (92, (.putfield 382, 3), (11, 58, 116)), (95, (.return_, 1), (0, 0, 0))]
/-- MixfixBenchModel.read -/
def X_c186 : List (Nat × (Jvm.ClassFile.Instr × Nat) × (Nat × Nat × Nat)) := [(0, (.aload_n 0, 1), (0, 0, 0)), (1, (.getfield 314, 3), (11, 38, 76)), (4, (.ifCond .ne 7, 3), (0, 0, 0)), (7, (.lconst 0, 1), (0, 0, 0)), (8, (.goto 12, 3), (0, 0, 0)), (11, (.aload_n 0, 1), (0, 0, 0)), (12, (.iconst 0, 1), (0, 0, 0)), (13, (.aload_n 0, 1), (0, 0, 0)), (14, (.getfield 314, 3), (11, 38, 76)), (17, (.invokevirtual 376, 3), (182, 76, 0)), (20, (.lstore_n 3, 1), (0, 0, 0)), (21, (.lload_n 1, 1), (0, 0, 0)), (22, (.lconst 0, 1), (0, 0, 0)), (23, (.lcmp, 1), (0, 0, 0)), (24, (.ifCond .lt 15, 3), (0, 0, 0)), (27, (.lload_n 3, 1), (0, 0, 0)), (28, (.lconst 0, 1), (0, 0, 0)), (29, (.lcmp, 1), (0, 0, 0)), (30, (.ifCond .lt 11, 3), (0, 0, 0)), (33, (.lload_n 1, 1), (0, 0, 0)), (34, (.lload_n 3, 1), (0, 0, 0)), (35, (.lcmp, 1), (0, 0, 0)), (36, (.ifCond .lt 5, 3), (0, 0, 0)), (39, (.iconst (-1), 1), (0, 0, 0)), (40, (.ireturn, 1), (0, 0, 0)), (41, (.aload_n 0, 1), (0, 0, 0)), (42, (.iconst 0, 1), (0, 0, 0)), (43, (.putfield 317, 3), (11, 49, 98)), (46, (.aload_n 0, 1), (0, 0, 0)), (47, (.iconst 0, 1), (0, 0, 0)), (48, (.putfield 320, 3), (11, 68, 136)), (51, (.aload_n 0, 1), (0, 0, 0)), (52, (.iconst 0, 1), (0, 0, 0)), (53, (.putfield 382, 3), (11, 58, 116)), (56, (.aload_n 0, 1), (0, 0, 0)), (57, (.iconst 0, 1), (0, 0, 0)), (58, (.aload_n 0, 1), (0, 0, 0)), (59, (.getfield 314, 3), (11, 38, 76)), (62, (.iconst 0, 1), (0, 0, 0)), (63, (.iconst 0, 1), (0, 0, 0)), (64, (.iconst 0, 1), (0, 0, 0)), (65, (.lload_n 1, 1), (0, 0, 0)), (66, (.iconst (-1), 1), (0, 0, 0)), (67, (.iconst (-1), 1), (0, 0, 0)), (68, (.invokevirtual 385, 3), (185, 78, 0)), (71, (.aload_n 0, 1), (0, 0, 0)), (72, (.getfield 382, 3), (11, 58, 116)), (75, (.ifCond .le 24, 3), (0, 0, 0)), (78, (.aload_n 0, 1), (0, 0, 0)), (79, (.dup, 1), (0, 0, 0)), (80, (.getfield 382, 3), (11, 58, 116)), (83, (.iconst 1, 1), (0, 0, 0)), (84, (.isub, 1), (0, 0, 0)), (85, (.putfield 382, 3), (11, 58, 116)), (88, (.aload_n 0, 1), (0, 0, 0)), (89, (.aload_n 0, 1), (0, 0, 0)), (90, (.getfield 382, 3), (11, 58, 116)), (93, (.invokevirtual 389, 3), (187, 80, 0)), (96, (.goto (-25), 3), (0, 0, 0)), (99, (.aload_n 0, 1), (0, 0, 0)), (100, (.getfield 317, 3), (11, 49, 98)), (103, (.ireturn, 1), (0, 0, 0))]
/-- MixfixBenchModel.open -/
def X_c187 : List (Nat × (Jvm.ClassFile.Instr × Nat) × (Nat × Nat × Nat)) := [(0, (.aload_n 0, 1), (0, 0, 0)), (1, (.getfield 237, 3), (11, 50, 100)), (4, (.iload_n 1, 1), (0, 0, 0)), (5, (.iaload, 1), (0, 0, 0)), (6, (.istore_n 2, 1), (0, 0, 0)), (7, (.aload_n 0, 1), (0, 0, 0)), (8, (.getfield 240, 3), (11, 51, 102)), (11, (.iload_n 1, 1), (0, 0, 0)), (12, (.iaload, 1), (0, 0, 0)), (13, (.istore_n 3, 1), (0, 0, 0)), (14, (.aload_n 0, 1), (0, 0, 0)), (15, (.getfield 243, 3), (11, 52, 104)), (18, (.iload_n 1, 1), (0, 0, 0)), (19, (.iaload, 1), (0, 0, 0)), (20, (.istore 4, 2), (0, 0, 0)), (22, (.aload_n 0, 1), (0, 0, 0)), (23, (.getfield 317, 3), (11, 49, 98)), (26, (.istore 5, 2), (0, 0, 0)), (28, (.aload_n 0, 1), (0, 0, 0)), (29, (.getfield 225, 3), (11, 45, 90)), (32, (.iload 5, 2), (0, 0, 0)), (34, (.iload_n 2, 1), (0, 0, 0)), (35, (.iastore, 1), (0, 0, 0)), (36, (.aload_n 0, 1), (0, 0, 0)), (37, (.getfield 228, 3), (11, 46, 92)), (40, (.iload 5, 2), (0, 0, 0)), (42, (.iload_n 3, 1), (0, 0, 0)), (43, (.iload_n 2, 1), (0, 0, 0)), (44, (.isub, 1), (0, 0, 0)), (45, (.iastore, 1), (0, 0, 0)), (46, (.aload_n 0, 1), (0, 0, 0)), (47, (.getfield 231, 3), (11, 47, 94)), (50, (.iload 5, 2), (0, 0, 0)), (52, (.aload_n 0, 1), (0, 0, 0)), (53, (.getfield 252, 3), (11, 55, 110)), (56, (.iload_n 1, 1), (0, 0, 0)), (57, (.iaload, 1), (0, 0, 0)), (58, (.iastore, 1), (0, 0, 0)), (59, (.aload_n 0, 1), (0, 0, 0)), (60, (.getfield 234, 3), (11, 48, 96)), (63, (.iload 5, 2), (0, 0, 0)), (65, (.aload_n 0, 1), (0, 0, 0)), (66, (.getfield 255, 3), (11, 56, 112)), (69, (.iload_n 1, 1), (0, 0, 0)), (70, (.iaload, 1), (0, 0, 0)), (71, (.iastore, 1), (0, 0, 0)), (72, (.aload_n 0, 1), (0, 0, 0)), (73, (.dup, 1), (0, 0, 0)), (74, (.getfield 317, 3), (11, 49, 98)), (77, (.iconst 1, 1), (0, 0, 0)), (78, (.iadd, 1), (0, 0, 0)), (79, (.putfield 317, 3), (11, 49, 98)), (82, (.aload_n 0, 1), (0, 0, 0)), (83, (.getfield 258, 3), (11, 57, 114)), (86, (.iload_n 1, 1), (0, 0, 0)), (87, (.laload, 1), (0, 0, 0)), (88, (.lstore 6, 2), (0, 0, 0)), (90, (.aload_n 0, 1), (0, 0, 0)), (91, (.getfield 249, 3), (11, 54, 108)), (94, (.iload_n 1, 1), (0, 0, 0)), (95, (.iaload, 1), (0, 0, 0)), (96, (.istore 8, 2), (0, 0, 0)), (98, (.aload_n 0, 1), (0, 0, 0)), (99, (.getfield 246, 3), (11, 53, 106)), (102, (.iload_n 1, 1), (0, 0, 0)), (103, (.iaload, 1), (0, 0, 0)), (104, (.istore 9, 2), (0, 0, 0)), (106, (.aload_n 0, 1), (0, 0, 0)), (107, (.iload_n 2, 1), (0, 0, 0)), (108, (.iload_n 3, 1), (0, 0, 0)), (109, (.invokevirtual 356, 3), (176, 66, 0)), (112, (.ifCond .eq 13, 3), (0, 0, 0)), (115, (.aload_n 0, 1), (0, 0, 0)), (116, (.getfield 222, 3), (11, 44, 88)), (119, (.iload 5, 2), (0, 0, 0)), (121, (.bipush (-2), 2), (0, 0, 0)), (123, (.iastore, 1), (0, 0, 0)), (124, (.return_, 1), (0, 0, 0)), (125, (.iconst 0, 1), (0, 0, 0)), (126, (.istore 10, 2), (0, 0, 0)), (128, (.iconst 0, 1), (0, 0, 0)), (129, (.istore 11, 2), (0, 0, 0)), (131, (.iload 11, 2), (0, 0, 0)), (133, (.aload_n 0, 1), (0, 0, 0)), (134, (.getfield 94, 3), (11, 29, 58)), (137, (.if_icmp .ge 43, 3), (0, 0, 0)), (140, (.iload 10, 2), (0, 0, 0)), (142, (.ifCond .ne 25, 3), (0, 0, 0)), (145, (.aload_n 0, 1), (0, 0, 0)), (146, (.getfield 209, 3), (11, 40, 80)), (149, (.sipush 961, 3), (0, 0, 0)), (152, (.iload 11, 2), (0, 0, 0)), (154, (.imul, 1), (0, 0, 0)), (155, (.iload_n 2, 1), (0, 0, 0)), (156, (.iload_n 3, 1), (0, 0, 0)), (157, (.invokestatic 337, 3), (173, 56, 0)), (160, (.iadd, 1), (0, 0, 0)), (161, (.laload, 1), (0, 0, 0)), (162, (.lconst 0, 1), (0, 0, 0)), (163, (.lcmp, 1), (0, 0, 0)), (164, (.ifCond .eq 7, 3), (0, 0, 0)), (167, (.iconst 1, 1), (0, 0, 0)), (168, (.goto 4, 3), (0, 0, 0)), (171, (.iconst 0, 1), (0, 0, 0)), (172, (.istore 10, 2), (0, 0, 0)), (174, (.iinc 11 1, 3), (0, 0, 0)), (177, (.goto (-46), 3), (0, 0, 0)), (180, (.iload 10, 2), (0, 0, 0)), (182, (.ifCond .eq 32, 3), (0, 0, 0)), (185, (.aload_n 0, 1), (0, 0, 0)), (186, (.getfield 222, 3), (11, 44, 88)), (189, (.iload 5, 2), (0, 0, 0)), (191, (.bipush (-3), 2), (0, 0, 0)), (193, (.iastore, 1), (0, 0, 0)), (194, (.aload_n 0, 1), (0, 0, 0)), (195, (.iload_n 2, 1), (0, 0, 0)), (196, (.iconst 1, 1), (0, 0, 0)), (197, (.iadd, 1), (0, 0, 0)), (198, (.iload_n 3, 1), (0, 0, 0)), (199, (.iconst 1, 1), (0, 0, 0)), (200, (.isub, 1), (0, 0, 0)), (201, (.iload 4, 2), (0, 0, 0)), (203, (.iconst 0, 1), (0, 0, 0)), (204, (.iconst 0, 1), (0, 0, 0)), (205, (.lload 6, 2), (0, 0, 0)), (207, (.iload 5, 2), (0, 0, 0)), (209, (.iconst 0, 1), (0, 0, 0)), (210, (.invokevirtual 385, 3), (185, 78, 0)), (213, (.return_, 1), (0, 0, 0)), (214, (.iconst 0, 1), (0, 0, 0)), (215, (.istore 11, 2), (0, 0, 0)), (217, (.iconst 0, 1), (0, 0, 0)), (218, (.istore 12, 2), (0, 0, 0)), (220, (.iload 12, 2), (0, 0, 0)), (222, (.ifCond .ne 118, 3), (0, 0, 0)), (225, (.aload_n 0, 1), (0, 0, 0)), (226, (.aload_n 0, 1), (0, 0, 0)), (227, (.getfield 147, 3), (11, 19, 38)), (230, (.bipush 30, 2), (0, 0, 0)), (232, (.aload_n 0, 1), (0, 0, 0)), (233, (.getfield 91, 3), (11, 4, 8)), (236, (.imul, 1), (0, 0, 0)), (237, (.iload 11, 2), (0, 0, 0)), (239, (.iadd, 1), (0, 0, 0)), (240, (.iaload, 1), (0, 0, 0)), (241, (.iload 4, 2), (0, 0, 0)), (243, (.invokevirtual 327, 3), (168, 52, 0)), (246, (.ifCond .eq 20, 3), (0, 0, 0)), (249, (.aload_n 0, 1), (0, 0, 0)), (250, (.iload 9, 2), (0, 0, 0)), (252, (.iload 8, 2), (0, 0, 0)), (254, (.iload 11, 2), (0, 0, 0)), (256, (.invokevirtual 372, 3), (179, 74, 0)), (259, (.ifCond .eq 7, 3), (0, 0, 0)), (262, (.iconst 1, 1), (0, 0, 0)), (263, (.goto 4, 3), (0, 0, 0)), (266, (.iconst 0, 1), (0, 0, 0)), (267, (.istore 13, 2), (0, 0, 0)), (269, (.iload 13, 2), (0, 0, 0)), (271, (.ifCond .eq 23, 3), (0, 0, 0)), (274, (.aload_n 0, 1), (0, 0, 0)), (275, (.getfield 206, 3), (11, 39, 78)), (278, (.sipush 961, 3), (0, 0, 0)), (281, (.iload 11, 2), (0, 0, 0)), (283, (.imul, 1), (0, 0, 0)), (284, (.iload_n 2, 1), (0, 0, 0)), (285, (.iload_n 3, 1), (0, 0, 0)), (286, (.invokestatic 337, 3), (173, 56, 0)), (289, (.iadd, 1), (0, 0, 0)), (290, (.laload, 1), (0, 0, 0)), (291, (.goto 4, 3), (0, 0, 0)), (294, (.lconst 0, 1), (0, 0, 0)), (295, (.lstore 14, 2), (0, 0, 0)), (297, (.lload 14, 2), (0, 0, 0)), (299, (.lconst 0, 1), (0, 0, 0)), (300, (.lcmp, 1), (0, 0, 0)), (301, (.ifCond .lt 11, 3), (0, 0, 0)), (304, (.lload 6, 2), (0, 0, 0)), (306, (.lload 14, 2), (0, 0, 0)), (308, (.lcmp, 1), (0, 0, 0)), (309, (.ifCond .ge 7, 3), (0, 0, 0)), (312, (.iconst 1, 1), (0, 0, 0)), (313, (.goto 4, 3), (0, 0, 0)), (316, (.iconst 0, 1), (0, 0, 0)), (317, (.istore 12, 2), (0, 0, 0)), (319, (.iload 12, 2), (0, 0, 0)), (321, (.ifCond .eq 6, 3), (0, 0, 0)), (324, (.goto (-104), 3), (0, 0, 0)), (327, (.lload 6, 2), (0, 0, 0)), (329, (.lload 14, 2), (0, 0, 0)), (331, (.lsub, 1), (0, 0, 0)), (332, (.lstore 6, 2), (0, 0, 0)), (334, (.iinc 11 1, 3), (0, 0, 0)), (337, (.goto (-117), 3), (0, 0, 0)), (340, (.aload_n 0, 1), (0, 0, 0)), (341, (.getfield 222, 3), (11, 44, 88)), (344, (.iload 5, 2), (0, 0, 0)), (346, (.iload 11, 2), (0, 0, 0)), (348, (.iastore, 1), (0, 0, 0)), (349, (.aload_n 0, 1), (0, 0, 0)), (350, (.iload 11, 2), (0, 0, 0)), (352, (.iload_n 2, 1), (0, 0, 0)), (353, (.iload_n 3, 1), (0, 0, 0)), (354, (.lload 6, 2), (0, 0, 0)), (356, (.iload 5, 2), (0, 0, 0)), (358, (.invokevirtual 392, 3), (189, 82, 0)), (361, (.return_, 1), (0, 0, 0))]
/-- MixfixBenchModel.restWays -/
def X_c188 : List (Nat × (Jvm.ClassFile.Instr × Nat) × (Nat × Nat × Nat)) := [(0, (.bipush 30, 2), (0, 0, 0)), (2, (.aload_n 0, 1), (0, 0, 0)), (3, (.getfield 91, 3), (11, 4, 8)), (6, (.imul, 1), (0, 0, 0)), (7, (.iload_n 1, 1), (0, 0, 0)), (8, (.iadd, 1), (0, 0, 0)), (9, (.istore_n 3, 1), (0, 0, 0)), (10, (.iconst 0, 1), (0, 0, 0)), (11, (.istore 4, 2), (0, 0, 0)), (13, (.iload 4, 2), (0, 0, 0)), (15, (.iload_n 2, 1), (0, 0, 0)), (16, (.if_icmp .gt 37, 3), (0, 0, 0)), (19, (.aload_n 0, 1), (0, 0, 0)), (20, (.getfield 270, 3), (11, 62, 124)), (23, (.bipush 32, 2), (0, 0, 0)), (25, (.aload_n 0, 1), (0, 0, 0)), (26, (.getfield 150, 3), (11, 20, 40)), (29, (.iload_n 3, 1), (0, 0, 0)), (30, (.iaload, 1), (0, 0, 0)), (31, (.imul, 1), (0, 0, 0)), (32, (.iload 4, 2), (0, 0, 0)), (34, (.iadd, 1), (0, 0, 0)), (35, (.iload 4, 2), (0, 0, 0)), (37, (.iload_n 2, 1), (0, 0, 0)), (38, (.if_icmp .ne 7, 3), (0, 0, 0)), (41, (.lconst 1, 1), (0, 0, 0)), (42, (.goto 4, 3), (0, 0, 0)), (45, (.lconst 0, 1), (0, 0, 0)), (46, (.lastore, 1), (0, 0, 0)), (47, (.iinc 4 1, 3), (0, 0, 0)), (50, (.goto (-37), 3), (0, 0, 0)), (53, (.aload_n 0, 1), (0, 0, 0)), (54, (.getfield 150, 3), (11, 20, 40)), (57, (.iload_n 3, 1), (0, 0, 0)), (58, (.iaload, 1), (0, 0, 0)), (59, (.iconst 1, 1), (0, 0, 0)), (60, (.isub, 1), (0, 0, 0)), (61, (.istore 4, 2), (0, 0, 0)), (63, (.iload 4, 2), (0, 0, 0)), (65, (.ifCond .lt 184, 3), (0, 0, 0)), (68, (.aload_n 0, 1), (0, 0, 0)), (69, (.getfield 168, 3), (11, 25, 50)), (72, (.bipush 8, 2), (0, 0, 0)), (74, (.iload_n 3, 1), (0, 0, 0)), (75, (.imul, 1), (0, 0, 0)), (76, (.iload 4, 2), (0, 0, 0)), (78, (.iadd, 1), (0, 0, 0)), (79, (.laload, 1), (0, 0, 0)), (80, (.lstore 5, 2), (0, 0, 0)), (82, (.iconst 0, 1), (0, 0, 0)), (83, (.istore 7, 2), (0, 0, 0)), (85, (.iload 7, 2), (0, 0, 0)), (87, (.iload_n 2, 1), (0, 0, 0)), (88, (.if_icmp .gt 155, 3), (0, 0, 0)), (91, (.lconst 0, 1), (0, 0, 0)), (92, (.lstore 8, 2), (0, 0, 0)), (94, (.lload 5, 2), (0, 0, 0)), (96, (.lconst 0, 1), (0, 0, 0)), (97, (.lcmp, 1), (0, 0, 0)), (98, (.ifCond .eq 48, 3), (0, 0, 0)), (101, (.iload 7, 2), (0, 0, 0)), (103, (.iload_n 2, 1), (0, 0, 0)), (104, (.if_icmp .ge 36, 3), (0, 0, 0)), (107, (.aload_n 0, 1), (0, 0, 0)), (108, (.getfield 194, 3), (11, 34, 68)), (111, (.iload 7, 2), (0, 0, 0)), (113, (.laload, 1), (0, 0, 0)), (114, (.lload 5, 2), (0, 0, 0)), (116, (.lcmp, 1), (0, 0, 0)), (117, (.ifCond .ne 23, 3), (0, 0, 0)), (120, (.aload_n 0, 1), (0, 0, 0)), (121, (.getfield 270, 3), (11, 62, 124)), (124, (.bipush 32, 2), (0, 0, 0)), (126, (.iload 4, 2), (0, 0, 0)), (128, (.iconst 1, 1), (0, 0, 0)), (129, (.iadd, 1), (0, 0, 0)), (130, (.imul, 1), (0, 0, 0)), (131, (.iload 7, 2), (0, 0, 0)), (133, (.iadd, 1), (0, 0, 0)), (134, (.iconst 1, 1), (0, 0, 0)), (135, (.iadd, 1), (0, 0, 0)), (136, (.laload, 1), (0, 0, 0)), (137, (.goto 4, 3), (0, 0, 0)), (140, (.lconst 0, 1), (0, 0, 0)), (141, (.lstore 8, 2), (0, 0, 0)), (143, (.goto 79, 3), (0, 0, 0)), (146, (.iload 7, 2), (0, 0, 0)), (148, (.iconst 1, 1), (0, 0, 0)), (149, (.iadd, 1), (0, 0, 0)), (150, (.istore 10, 2), (0, 0, 0)), (152, (.iload 10, 2), (0, 0, 0)), (154, (.iload_n 2, 1), (0, 0, 0)), (155, (.if_icmp .gt 67, 3), (0, 0, 0)), (158, (.lload 8, 2), (0, 0, 0)), (160, (.aload_n 0, 1), (0, 0, 0)), (161, (.getfield 213, 3), (11, 41, 82)), (164, (.sipush 961, 3), (0, 0, 0)), (167, (.iconst 4, 1), (0, 0, 0)), (168, (.iload_n 1, 1), (0, 0, 0)), (169, (.imul, 1), (0, 0, 0)), (170, (.aload_n 0, 1), (0, 0, 0)), (171, (.getfield 171, 3), (11, 26, 52)), (174, (.bipush 8, 2), (0, 0, 0)), (176, (.iload_n 3, 1), (0, 0, 0)), (177, (.imul, 1), (0, 0, 0)), (178, (.iload 4, 2), (0, 0, 0)), (180, (.iadd, 1), (0, 0, 0)), (181, (.iaload, 1), (0, 0, 0)), (182, (.iadd, 1), (0, 0, 0)), (183, (.imul, 1), (0, 0, 0)), (184, (.iload 7, 2), (0, 0, 0)), (186, (.iload 10, 2), (0, 0, 0)), (188, (.invokestatic 337, 3), (173, 56, 0)), (191, (.iadd, 1), (0, 0, 0)), (192, (.laload, 1), (0, 0, 0)), (193, (.aload_n 0, 1), (0, 0, 0)), (194, (.getfield 270, 3), (11, 62, 124)), (197, (.bipush 32, 2), (0, 0, 0)), (199, (.iload 4, 2), (0, 0, 0)), (201, (.iconst 1, 1), (0, 0, 0)), (202, (.iadd, 1), (0, 0, 0)), (203, (.imul, 1), (0, 0, 0)), (204, (.iload 10, 2), (0, 0, 0)), (206, (.iadd, 1), (0, 0, 0)), (207, (.laload, 1), (0, 0, 0)), (208, (.invokestatic 366, 3), (172, 62, 0)), (211, (.invokestatic 362, 3), (171, 60, 0)), (214, (.lstore 8, 2), (0, 0, 0)), (216, (.iinc 10 1, 3), (0, 0, 0)), (219, (.goto (-67), 3), (0, 0, 0)), (222, (.aload_n 0, 1), (0, 0, 0)), (223, (.getfield 270, 3), (11, 62, 124)), (226, (.bipush 32, 2), (0, 0, 0)), (228, (.iload 4, 2), (0, 0, 0)), (230, (.imul, 1), (0, 0, 0)), (231, (.iload 7, 2), (0, 0, 0)), (233, (.iadd, 1), (0, 0, 0)), (234, (.lload 8, 2), (0, 0, 0)), (236, (.lastore, 1), (0, 0, 0)), (237, (.iinc 7 1, 3), (0, 0, 0)), (240, (.goto (-155), 3), (0, 0, 0)), (243, (.iinc 4 (-1), 3), (0, 0, 0)), (246, (.goto (-183), 3), (0, 0, 0)), (249, (.return_, 1), (0, 0, 0))]
/-- MixfixBenchModel.cut -/
def X_c189 : List (Nat × (Jvm.ClassFile.Instr × Nat) × (Nat × Nat × Nat)) := [(0, (.bipush 30, 2), (0, 0, 0)), (2, (.aload_n 0, 1), (0, 0, 0)), (3, (.getfield 91, 3), (11, 4, 8)), (6, (.imul, 1), (0, 0, 0)), (7, (.iload_n 1, 1), (0, 0, 0)), (8, (.iadd, 1), (0, 0, 0)), (9, (.istore 7, 2), (0, 0, 0)), (11, (.aload_n 0, 1), (0, 0, 0)), (12, (.iload_n 1, 1), (0, 0, 0)), (13, (.iload_n 3, 1), (0, 0, 0)), (14, (.invokevirtual 396, 3), (188, 84, 0)), (17, (.lload 4, 2), (0, 0, 0)), (19, (.lstore 8, 2), (0, 0, 0)), (21, (.lconst 1, 1), (0, 0, 0)), (22, (.lstore 10, 2), (0, 0, 0)), (24, (.iload_n 2, 1), (0, 0, 0)), (25, (.istore 12, 2), (0, 0, 0)), (27, (.iconst 0, 1), (0, 0, 0)), (28, (.istore 13, 2), (0, 0, 0)), (30, (.iconst 0, 1), (0, 0, 0)), (31, (.istore 14, 2), (0, 0, 0)), (33, (.iload 14, 2), (0, 0, 0)), (35, (.aload_n 0, 1), (0, 0, 0)), (36, (.getfield 150, 3), (11, 20, 40)), (39, (.iload 7, 2), (0, 0, 0)), (41, (.iaload, 1), (0, 0, 0)), (42, (.if_icmp .ge 183, 3), (0, 0, 0)), (45, (.aload_n 0, 1), (0, 0, 0)), (46, (.getfield 168, 3), (11, 25, 50)), (49, (.bipush 8, 2), (0, 0, 0)), (51, (.iload 7, 2), (0, 0, 0)), (53, (.imul, 1), (0, 0, 0)), (54, (.iload 14, 2), (0, 0, 0)), (56, (.iadd, 1), (0, 0, 0)), (57, (.laload, 1), (0, 0, 0)), (58, (.lconst 0, 1), (0, 0, 0)), (59, (.lcmp, 1), (0, 0, 0)), (60, (.ifCond .eq 9, 3), (0, 0, 0)), (63, (.iinc 12 1, 3), (0, 0, 0)), (66, (.goto 153, 3), (0, 0, 0)), (69, (.iload 12, 2), (0, 0, 0)), (71, (.istore 15, 2), (0, 0, 0)), (73, (.iconst 0, 1), (0, 0, 0)), (74, (.istore 16, 2), (0, 0, 0)), (76, (.lconst 0, 1), (0, 0, 0)), (77, (.lstore 17, 2), (0, 0, 0)), (79, (.iload 16, 2), (0, 0, 0)), (81, (.ifCond .ne 95, 3), (0, 0, 0)), (84, (.iinc 15 1, 3), (0, 0, 0)), (87, (.aload_n 0, 1), (0, 0, 0)), (88, (.getfield 213, 3), (11, 41, 82)), (91, (.sipush 961, 3), (0, 0, 0)), (94, (.iconst 4, 1), (0, 0, 0)), (95, (.iload_n 1, 1), (0, 0, 0)), (96, (.imul, 1), (0, 0, 0)), (97, (.iload 13, 2), (0, 0, 0)), (99, (.iadd, 1), (0, 0, 0)), (100, (.imul, 1), (0, 0, 0)), (101, (.iload 12, 2), (0, 0, 0)), (103, (.iload 15, 2), (0, 0, 0)), (105, (.invokestatic 337, 3), (173, 56, 0)), (108, (.iadd, 1), (0, 0, 0)), (109, (.laload, 1), (0, 0, 0)), (110, (.lstore 17, 2), (0, 0, 0)), (112, (.lload 10, 2), (0, 0, 0)), (114, (.lload 17, 2), (0, 0, 0)), (116, (.aload_n 0, 1), (0, 0, 0)), (117, (.getfield 270, 3), (11, 62, 124)), (120, (.bipush 32, 2), (0, 0, 0)), (122, (.iload 14, 2), (0, 0, 0)), (124, (.iconst 1, 1), (0, 0, 0)), (125, (.iadd, 1), (0, 0, 0)), (126, (.imul, 1), (0, 0, 0)), (127, (.iload 15, 2), (0, 0, 0)), (129, (.iadd, 1), (0, 0, 0)), (130, (.laload, 1), (0, 0, 0)), (131, (.invokestatic 366, 3), (172, 62, 0)), (134, (.invokestatic 366, 3), (172, 62, 0)), (137, (.lstore 19, 2), (0, 0, 0)), (139, (.lload 19, 2), (0, 0, 0)), (141, (.lconst 0, 1), (0, 0, 0)), (142, (.lcmp, 1), (0, 0, 0)), (143, (.ifCond .lt 11, 3), (0, 0, 0)), (146, (.lload 8, 2), (0, 0, 0)), (148, (.lload 19, 2), (0, 0, 0)), (150, (.lcmp, 1), (0, 0, 0)), (151, (.ifCond .ge 7, 3), (0, 0, 0)), (154, (.iconst 1, 1), (0, 0, 0)), (155, (.goto 4, 3), (0, 0, 0)), (158, (.iconst 0, 1), (0, 0, 0)), (159, (.istore 16, 2), (0, 0, 0)), (161, (.iload 16, 2), (0, 0, 0)), (163, (.ifCond .ne 10, 3), (0, 0, 0)), (166, (.lload 8, 2), (0, 0, 0)), (168, (.lload 19, 2), (0, 0, 0)), (170, (.lsub, 1), (0, 0, 0)), (171, (.lstore 8, 2), (0, 0, 0)), (173, (.goto (-94), 3), (0, 0, 0)), (176, (.aload_n 0, 1), (0, 0, 0)), (177, (.getfield 261, 3), (11, 59, 118)), (180, (.iload 13, 2), (0, 0, 0)), (182, (.iload 12, 2), (0, 0, 0)), (184, (.iastore, 1), (0, 0, 0)), (185, (.aload_n 0, 1), (0, 0, 0)), (186, (.getfield 264, 3), (11, 60, 120)), (189, (.iload 13, 2), (0, 0, 0)), (191, (.iload 15, 2), (0, 0, 0)), (193, (.iastore, 1), (0, 0, 0)), (194, (.aload_n 0, 1), (0, 0, 0)), (195, (.getfield 267, 3), (11, 61, 122)), (198, (.iload 13, 2), (0, 0, 0)), (200, (.lload 17, 2), (0, 0, 0)), (202, (.lastore, 1), (0, 0, 0)), (203, (.lload 10, 2), (0, 0, 0)), (205, (.lload 17, 2), (0, 0, 0)), (207, (.invokestatic 366, 3), (172, 62, 0)), (210, (.lstore 10, 2), (0, 0, 0)), (212, (.iload 15, 2), (0, 0, 0)), (214, (.istore 12, 2), (0, 0, 0)), (216, (.iinc 13 1, 3), (0, 0, 0)), (219, (.iinc 14 1, 3), (0, 0, 0)), (222, (.goto (-189), 3), (0, 0, 0)), (225, (.iload 13, 2), (0, 0, 0)), (227, (.iconst 1, 1), (0, 0, 0)), (228, (.isub, 1), (0, 0, 0)), (229, (.istore 14, 2), (0, 0, 0)), (231, (.iload 14, 2), (0, 0, 0)), (233, (.ifCond .lt 110, 3), (0, 0, 0)), (236, (.aload_n 0, 1), (0, 0, 0)), (237, (.getfield 267, 3), (11, 61, 122)), (240, (.iload 14, 2), (0, 0, 0)), (242, (.laload, 1), (0, 0, 0)), (243, (.lconst 0, 1), (0, 0, 0)), (244, (.lcmp, 1), (0, 0, 0)), (245, (.ifCond .ge 8, 3), (0, 0, 0)), (248, (.lload 8, 2), (0, 0, 0)), (250, (.goto 13, 3), (0, 0, 0)), (253, (.lload 8, 2), (0, 0, 0)), (255, (.aload_n 0, 1), (0, 0, 0)), (256, (.getfield 267, 3), (11, 61, 122)), (259, (.iload 14, 2), (0, 0, 0)), (261, (.laload, 1), (0, 0, 0)), (262, (.lrem, 1), (0, 0, 0)), (263, (.lstore 15, 2), (0, 0, 0)), (265, (.aload_n 0, 1), (0, 0, 0)), (266, (.getfield 267, 3), (11, 61, 122)), (269, (.iload 14, 2), (0, 0, 0)), (271, (.laload, 1), (0, 0, 0)), (272, (.lconst 0, 1), (0, 0, 0)), (273, (.lcmp, 1), (0, 0, 0)), (274, (.ifCond .ge 7, 3), (0, 0, 0)), (277, (.lconst 0, 1), (0, 0, 0)), (278, (.goto 13, 3), (0, 0, 0)), (281, (.lload 8, 2), (0, 0, 0)), (283, (.aload_n 0, 1), (0, 0, 0)), (284, (.getfield 267, 3), (11, 61, 122)), (287, (.iload 14, 2), (0, 0, 0)), (289, (.laload, 1), (0, 0, 0)), (290, (.ldiv, 1), (0, 0, 0)), (291, (.lstore 8, 2), (0, 0, 0)), (293, (.aload_n 0, 1), (0, 0, 0)), (294, (.aload_n 0, 1), (0, 0, 0)), (295, (.getfield 261, 3), (11, 59, 118)), (298, (.iload 14, 2), (0, 0, 0)), (300, (.iaload, 1), (0, 0, 0)), (301, (.aload_n 0, 1), (0, 0, 0)), (302, (.getfield 264, 3), (11, 60, 120)), (305, (.iload 14, 2), (0, 0, 0)), (307, (.iaload, 1), (0, 0, 0)), (308, (.aload_n 0, 1), (0, 0, 0)), (309, (.getfield 174, 3), (11, 27, 54)), (312, (.iconst 4, 1), (0, 0, 0)), (313, (.iload 7, 2), (0, 0, 0)), (315, (.imul, 1), (0, 0, 0)), (316, (.iload 14, 2), (0, 0, 0)), (318, (.iadd, 1), (0, 0, 0)), (319, (.iaload, 1), (0, 0, 0)), (320, (.iload_n 1, 1), (0, 0, 0)), (321, (.aload_n 0, 1), (0, 0, 0)), (322, (.iload_n 1, 1), (0, 0, 0)), (323, (.iload 14, 2), (0, 0, 0)), (325, (.invokevirtual 369, 3), (180, 72, 0)), (328, (.lload 15, 2), (0, 0, 0)), (330, (.iload 6, 2), (0, 0, 0)), (332, (.iload 14, 2), (0, 0, 0)), (334, (.invokevirtual 385, 3), (185, 78, 0)), (337, (.iinc 14 (-1), 3), (0, 0, 0)), (340, (.goto (-109), 3), (0, 0, 0)), (343, (.return_, 1), (0, 0, 0))]
/-- MixfixBenchModel.node -/
def X_c190 : List (Nat × (Jvm.ClassFile.Instr × Nat) × (Nat × Nat × Nat)) := [(0, (.iload_n 1, 1), (0, 0, 0)), (1, (.ifCond .lt 11, 3), (0, 0, 0)), (4, (.iload_n 1, 1), (0, 0, 0)), (5, (.aload_n 0, 1), (0, 0, 0)), (6, (.getfield 317, 3), (11, 49, 98)), (9, (.if_icmp .lt 5, 3), (0, 0, 0)), (12, (.iconst (-1), 1), (0, 0, 0)), (13, (.ireturn, 1), (0, 0, 0)), (14, (.iload_n 2, 1), (0, 0, 0)), (15, (.tableswitch 81 0 4 #[33, 40, 47, 54, 61], 33), (0, 0, 0)), (48, (.aload_n 0, 1), (0, 0, 0)), (49, (.getfield 222, 3), (11, 44, 88)), (52, (.iload_n 1, 1), (0, 0, 0)), (53, (.iaload, 1), (0, 0, 0)), (54, (.ireturn, 1), (0, 0, 0)), (55, (.aload_n 0, 1), (0, 0, 0)), (56, (.getfield 225, 3), (11, 45, 90)), (59, (.iload_n 1, 1), (0, 0, 0)), (60, (.iaload, 1), (0, 0, 0)), (61, (.ireturn, 1), (0, 0, 0)), (62, (.aload_n 0, 1), (0, 0, 0)), (63, (.getfield 228, 3), (11, 46, 92)), (66, (.iload_n 1, 1), (0, 0, 0)), (67, (.iaload, 1), (0, 0, 0)), (68, (.ireturn, 1), (0, 0, 0)), (69, (.aload_n 0, 1), (0, 0, 0)), (70, (.getfield 231, 3), (11, 47, 94)), (73, (.iload_n 1, 1), (0, 0, 0)), (74, (.iaload, 1), (0, 0, 0)), (75, (.ireturn, 1), (0, 0, 0)), (76, (.aload_n 0, 1), (0, 0, 0)), (77, (.getfield 231, 3), (11, 47, 94)), (80, (.iload_n 1, 1), (0, 0, 0)), (81, (.iaload, 1), (0, 0, 0)), (82, (.ifCond .ge 7, 3), (0, 0, 0)), (85, (.iconst (-1), 1), (0, 0, 0)), (86, (.goto 9, 3), (0, 0, 0)), (89, (.aload_n 0, 1), (0, 0, 0)), (90, (.getfield 234, 3), (11, 48, 96)), (93, (.iload_n 1, 1), (0, 0, 0)), (94, (.iaload, 1), (0, 0, 0)), (95, (.ireturn, 1), (0, 0, 0)), (96, (.iconst (-1), 1), (0, 0, 0)), (97, (.ireturn, 1), (0, 0, 0))]
/-- MixfixBenchModel.bind -/
def X_c191 : List (Nat × (Jvm.ClassFile.Instr × Nat) × (Nat × Nat × Nat)) := [(0, (.aload_n 0, 1), (0, 0, 0)), (1, (.iload_n 1, 1), (0, 0, 0)), (2, (.invokevirtual 324, 3), (165, 50, 0)), (5, (.ifCond .eq 37, 3), (0, 0, 0)), (8, (.aload_n 0, 1), (0, 0, 0)), (9, (.getfield 156, 3), (11, 22, 44)), (12, (.bipush 30, 2), (0, 0, 0)), (14, (.aload_n 0, 1), (0, 0, 0)), (15, (.getfield 91, 3), (11, 4, 8)), (18, (.imul, 1), (0, 0, 0)), (19, (.iload_n 1, 1), (0, 0, 0)), (20, (.iadd, 1), (0, 0, 0)), (21, (.iaload, 1), (0, 0, 0)), (22, (.ifCond .ge 20, 3), (0, 0, 0)), (25, (.aload_n 0, 1), (0, 0, 0)), (26, (.getfield 153, 3), (11, 21, 42)), (29, (.bipush 30, 2), (0, 0, 0)), (31, (.aload_n 0, 1), (0, 0, 0)), (32, (.getfield 91, 3), (11, 4, 8)), (35, (.imul, 1), (0, 0, 0)), (36, (.iload_n 1, 1), (0, 0, 0)), (37, (.iadd, 1), (0, 0, 0)), (38, (.iaload, 1), (0, 0, 0)), (39, (.ifCond .le 5, 3), (0, 0, 0)), (42, (.iconst 0, 1), (0, 0, 0)), (43, (.ireturn, 1), (0, 0, 0)), (44, (.aload_n 0, 1), (0, 0, 0)), (45, (.getfield 273, 3), (11, 63, 126)), (48, (.iload_n 1, 1), (0, 0, 0)), (49, (.iconst 1, 1), (0, 0, 0)), (50, (.bastore, 1), (0, 0, 0)), (51, (.aload_n 0, 1), (0, 0, 0)), (52, (.getfield 276, 3), (11, 64, 128)), (55, (.iload_n 1, 1), (0, 0, 0)), (56, (.iload_n 2, 1), (0, 0, 0)), (57, (.iastore, 1), (0, 0, 0)), (58, (.iconst 1, 1), (0, 0, 0)), (59, (.ireturn, 1), (0, 0, 0))]
/-- MixfixBenchModel.behind -/
def X_c192 : List (Nat × (Jvm.ClassFile.Instr × Nat) × (Nat × Nat × Nat)) := [(0, (.iload_n 1, 1), (0, 0, 0)), (1, (.iconst 1, 1), (0, 0, 0)), (2, (.iadd, 1), (0, 0, 0)), (3, (.istore_n 2, 1), (0, 0, 0)), (4, (.iload_n 2, 1), (0, 0, 0)), (5, (.aload_n 0, 1), (0, 0, 0)), (6, (.getfield 317, 3), (11, 49, 98)), (9, (.if_icmp .ge 19, 3), (0, 0, 0)), (12, (.aload_n 0, 1), (0, 0, 0)), (13, (.getfield 231, 3), (11, 47, 94)), (16, (.iload_n 2, 1), (0, 0, 0)), (17, (.iaload, 1), (0, 0, 0)), (18, (.iload_n 1, 1), (0, 0, 0)), (19, (.if_icmp .lt 9, 3), (0, 0, 0)), (22, (.iinc 2 1, 3), (0, 0, 0)), (25, (.goto (-21), 3), (0, 0, 0)), (28, (.iload_n 2, 1), (0, 0, 0)), (29, (.ireturn, 1), (0, 0, 0))]
/-- MixfixBenchModel.work -/
def X_c193 : List (Nat × (Jvm.ClassFile.Instr × Nat) × (Nat × Nat × Nat)) := [(0, (.aload_n 0, 1), (0, 0, 0)), (1, (.getfield 317, 3), (11, 49, 98)), (4, (.ifCond .ne 5, 3), (0, 0, 0)), (7, (.iconst (-1), 1), (0, 0, 0)), (8, (.ireturn, 1), (0, 0, 0)), (9, (.aload_n 0, 1), (0, 0, 0)), (10, (.iconst 1, 1), (0, 0, 0)), (11, (.putfield 320, 3), (11, 68, 136)), (14, (.aload_n 0, 1), (0, 0, 0)), (15, (.iconst 0, 1), (0, 0, 0)), (16, (.putfield 399, 3), (11, 70, 140)), (19, (.aload_n 0, 1), (0, 0, 0)), (20, (.iconst (-1), 1), (0, 0, 0)), (21, (.putfield 402, 3), (11, 69, 138)), (24, (.iconst 0, 1), (0, 0, 0)), (25, (.istore_n 1, 1), (0, 0, 0)), (26, (.iload_n 1, 1), (0, 0, 0)), (27, (.aload_n 0, 1), (0, 0, 0)), (28, (.getfield 317, 3), (11, 49, 98)), (31, (.if_icmp .ge 16, 3), (0, 0, 0)), (34, (.aload_n 0, 1), (0, 0, 0)), (35, (.getfield 288, 3), (11, 71, 142)), (38, (.iload_n 1, 1), (0, 0, 0)), (39, (.iconst 0, 1), (0, 0, 0)), (40, (.bastore, 1), (0, 0, 0)), (41, (.iinc 1 1, 3), (0, 0, 0)), (44, (.goto (-18), 3), (0, 0, 0)), (47, (.iconst 0, 1), (0, 0, 0)), (48, (.istore_n 1, 1), (0, 0, 0)), (49, (.iconst 0, 1), (0, 0, 0)), (50, (.istore_n 2, 1), (0, 0, 0)), (51, (.iload_n 2, 1), (0, 0, 0)), (52, (.aload_n 0, 1), (0, 0, 0)), (53, (.getfield 317, 3), (11, 49, 98)), (56, (.if_icmp .ge 80, 3), (0, 0, 0)), (59, (.aload_n 0, 1), (0, 0, 0)), (60, (.iload_n 1, 1), (0, 0, 0)), (61, (.invokevirtual 405, 3), (192, 86, 0)), (64, (.istore_n 3, 1), (0, 0, 0)), (65, (.iload_n 3, 1), (0, 0, 0)), (66, (.iload_n 1, 1), (0, 0, 0)), (67, (.iconst 1, 1), (0, 0, 0)), (68, (.iadd, 1), (0, 0, 0)), (69, (.if_icmp .le 20, 3), (0, 0, 0)), (72, (.aload_n 0, 1), (0, 0, 0)), (73, (.iload_n 1, 1), (0, 0, 0)), (74, (.invokevirtual 408, 3), (195, 88, 0)), (77, (.ifCond .ne 12, 3), (0, 0, 0)), (80, (.aload_n 0, 1), (0, 0, 0)), (81, (.iload_n 1, 1), (0, 0, 0)), (82, (.invokevirtual 411, 3), (194, 90, 0)), (85, (.istore_n 1, 1), (0, 0, 0)), (86, (.goto (-35), 3), (0, 0, 0)), (89, (.aload_n 0, 1), (0, 0, 0)), (90, (.iload_n 1, 1), (0, 0, 0)), (91, (.invokevirtual 414, 3), (196, 92, 0)), (94, (.istore 4, 2), (0, 0, 0)), (96, (.iload 4, 2), (0, 0, 0)), (98, (.ifCond .le 11, 3), (0, 0, 0)), (101, (.aload_n 0, 1), (0, 0, 0)), (102, (.iload_n 1, 1), (0, 0, 0)), (103, (.putfield 402, 3), (11, 69, 138)), (106, (.iload 4, 2), (0, 0, 0)), (108, (.ireturn, 1), (0, 0, 0)), (109, (.aload_n 0, 1), (0, 0, 0)), (110, (.getfield 288, 3), (11, 71, 142)), (113, (.iload_n 1, 1), (0, 0, 0)), (114, (.iconst 1, 1), (0, 0, 0)), (115, (.bastore, 1), (0, 0, 0)), (116, (.iinc 2 1, 3), (0, 0, 0)), (119, (.aload_n 0, 1), (0, 0, 0)), (120, (.getfield 231, 3), (11, 47, 94)), (123, (.iload_n 1, 1), (0, 0, 0)), (124, (.iaload, 1), (0, 0, 0)), (125, (.istore_n 1, 1), (0, 0, 0)), (126, (.iload_n 1, 1), (0, 0, 0)), (127, (.ifCond .ge 6, 3), (0, 0, 0)), (130, (.goto 6, 3), (0, 0, 0)), (133, (.goto (-82), 3), (0, 0, 0)), (136, (.aload_n 0, 1), (0, 0, 0)), (137, (.aload_n 0, 1), (0, 0, 0)), (138, (.getfield 279, 3), (11, 65, 130)), (141, (.iconst 0, 1), (0, 0, 0)), (142, (.iaload, 1), (0, 0, 0)), (143, (.putfield 399, 3), (11, 70, 140)), (146, (.iconst 0, 1), (0, 0, 0)), (147, (.ireturn, 1), (0, 0, 0))]
/-- MixfixBenchModel.nextWithin -/
def X_c194 : List (Nat × (Jvm.ClassFile.Instr × Nat) × (Nat × Nat × Nat)) := [(0, (.iload_n 1, 1), (0, 0, 0)), (1, (.iconst 1, 1), (0, 0, 0)), (2, (.iadd, 1), (0, 0, 0)), (3, (.istore_n 2, 1), (0, 0, 0)), (4, (.iload_n 2, 1), (0, 0, 0)), (5, (.aload_n 0, 1), (0, 0, 0)), (6, (.getfield 317, 3), (11, 49, 98)), (9, (.if_icmp .ge 30, 3), (0, 0, 0)), (12, (.aload_n 0, 1), (0, 0, 0)), (13, (.getfield 231, 3), (11, 47, 94)), (16, (.iload_n 2, 1), (0, 0, 0)), (17, (.iaload, 1), (0, 0, 0)), (18, (.iload_n 1, 1), (0, 0, 0)), (19, (.if_icmp .ne 14, 3), (0, 0, 0)), (22, (.aload_n 0, 1), (0, 0, 0)), (23, (.getfield 288, 3), (11, 71, 142)), (26, (.iload_n 2, 1), (0, 0, 0)), (27, (.baload, 1), (0, 0, 0)), (28, (.ifCond .ne 5, 3), (0, 0, 0)), (31, (.iload_n 2, 1), (0, 0, 0)), (32, (.ireturn, 1), (0, 0, 0)), (33, (.iinc 2 1, 3), (0, 0, 0)), (36, (.goto (-32), 3), (0, 0, 0)), (39, (.iconst (-1), 1), (0, 0, 0)), (40, (.ireturn, 1), (0, 0, 0))]
/-- MixfixBenchModel.isThrough -/
def X_c195 : List (Nat × (Jvm.ClassFile.Instr × Nat) × (Nat × Nat × Nat)) := [(0, (.aload_n 0, 1), (0, 0, 0)), (1, (.iload_n 1, 1), (0, 0, 0)), (2, (.invokevirtual 411, 3), (194, 90, 0)), (5, (.ifCond .ge 7, 3), (0, 0, 0)), (8, (.iconst 1, 1), (0, 0, 0)), (9, (.goto 4, 3), (0, 0, 0)), (12, (.iconst 0, 1), (0, 0, 0)), (13, (.ireturn, 1), (0, 0, 0))]
/-- MixfixBenchModel.value -/
def X_c196 : List (Nat × (Jvm.ClassFile.Instr × Nat) × (Nat × Nat × Nat)) := [(0, (.aload_n 0, 1), (0, 0, 0)), (1, (.getfield 222, 3), (11, 44, 88)), (4, (.iload_n 1, 1), (0, 0, 0)), (5, (.iaload, 1), (0, 0, 0)), (6, (.istore_n 2, 1), (0, 0, 0)), (7, (.iload_n 2, 1), (0, 0, 0)), (8, (.bipush (-2), 2), (0, 0, 0)), (10, (.if_icmp .ne 22, 3), (0, 0, 0)), (13, (.aload_n 0, 1), (0, 0, 0)), (14, (.getfield 279, 3), (11, 65, 130)), (17, (.iload_n 1, 1), (0, 0, 0)), (18, (.aload_n 0, 1), (0, 0, 0)), (19, (.getfield 200, 3), (11, 36, 72)), (22, (.aload_n 0, 1), (0, 0, 0)), (23, (.getfield 225, 3), (11, 45, 90)), (26, (.iload_n 1, 1), (0, 0, 0)), (27, (.iaload, 1), (0, 0, 0)), (28, (.iaload, 1), (0, 0, 0)), (29, (.iastore, 1), (0, 0, 0)), (30, (.iconst 0, 1), (0, 0, 0)), (31, (.ireturn, 1), (0, 0, 0)), (32, (.iload_n 2, 1), (0, 0, 0)), (33, (.bipush (-3), 2), (0, 0, 0)), (35, (.if_icmp .ne 19, 3), (0, 0, 0)), (38, (.aload_n 0, 1), (0, 0, 0)), (39, (.getfield 279, 3), (11, 65, 130)), (42, (.iload_n 1, 1), (0, 0, 0)), (43, (.aload_n 0, 1), (0, 0, 0)), (44, (.getfield 279, 3), (11, 65, 130)), (47, (.iload_n 1, 1), (0, 0, 0)), (48, (.iconst 1, 1), (0, 0, 0)), (49, (.iadd, 1), (0, 0, 0)), (50, (.iaload, 1), (0, 0, 0)), (51, (.iastore, 1), (0, 0, 0)), (52, (.iconst 0, 1), (0, 0, 0)), (53, (.ireturn, 1), (0, 0, 0)), (54, (.iload_n 1, 1), (0, 0, 0)), (55, (.iconst 1, 1), (0, 0, 0)), (56, (.iadd, 1), (0, 0, 0)), (57, (.istore_n 3, 1), (0, 0, 0)), (58, (.iload_n 3, 1), (0, 0, 0)), (59, (.aload_n 0, 1), (0, 0, 0)), (60, (.getfield 317, 3), (11, 49, 98)), (63, (.if_icmp .ge 36, 3), (0, 0, 0)), (66, (.aload_n 0, 1), (0, 0, 0)), (67, (.getfield 231, 3), (11, 47, 94)), (70, (.iload_n 3, 1), (0, 0, 0)), (71, (.iaload, 1), (0, 0, 0)), (72, (.iload_n 1, 1), (0, 0, 0)), (73, (.if_icmp .ne 20, 3), (0, 0, 0)), (76, (.aload_n 0, 1), (0, 0, 0)), (77, (.getfield 285, 3), (11, 67, 134)), (80, (.aload_n 0, 1), (0, 0, 0)), (81, (.getfield 234, 3), (11, 48, 96)), (84, (.iload_n 3, 1), (0, 0, 0)), (85, (.iaload, 1), (0, 0, 0)), (86, (.aload_n 0, 1), (0, 0, 0)), (87, (.getfield 279, 3), (11, 65, 130)), (90, (.iload_n 3, 1), (0, 0, 0)), (91, (.iaload, 1), (0, 0, 0)), (92, (.iastore, 1), (0, 0, 0)), (93, (.iinc 3 1, 3), (0, 0, 0)), (96, (.goto (-38), 3), (0, 0, 0)), (99, (.bipush 30, 2), (0, 0, 0)), (101, (.aload_n 0, 1), (0, 0, 0)), (102, (.getfield 91, 3), (11, 4, 8)), (105, (.imul, 1), (0, 0, 0)), (106, (.iload_n 2, 1), (0, 0, 0)), (107, (.iadd, 1), (0, 0, 0)), (108, (.istore_n 3, 1), (0, 0, 0)), (109, (.aload_n 0, 1), (0, 0, 0)), (110, (.getfield 156, 3), (11, 22, 44)), (113, (.iload_n 3, 1), (0, 0, 0)), (114, (.iaload, 1), (0, 0, 0)), (115, (.ifCond .lt 10, 3), (0, 0, 0)), (118, (.aload_n 0, 1), (0, 0, 0)), (119, (.iload_n 3, 1), (0, 0, 0)), (120, (.iload_n 1, 1), (0, 0, 0)), (121, (.invokevirtual 417, 3), (197, 94, 0)), (124, (.ireturn, 1), (0, 0, 0)), (125, (.aload_n 0, 1), (0, 0, 0)), (126, (.getfield 273, 3), (11, 63, 126)), (129, (.iload_n 2, 1), (0, 0, 0)), (130, (.baload, 1), (0, 0, 0)), (131, (.ifCond .ne 5, 3), (0, 0, 0)), (134, (.iconst 2, 1), (0, 0, 0)), (135, (.ireturn, 1), (0, 0, 0)), (136, (.aload_n 0, 1), (0, 0, 0)), (137, (.getfield 279, 3), (11, 65, 130)), (140, (.iload_n 1, 1), (0, 0, 0)), (141, (.aload_n 0, 1), (0, 0, 0)), (142, (.getfield 276, 3), (11, 64, 128)), (145, (.iload_n 2, 1), (0, 0, 0)), (146, (.iaload, 1), (0, 0, 0)), (147, (.iastore, 1), (0, 0, 0)), (148, (.iconst 0, 1), (0, 0, 0)), (149, (.ireturn, 1), (0, 0, 0))]
/-- MixfixBenchModel.steps -/
def X_c197 : List (Nat × (Jvm.ClassFile.Instr × Nat) × (Nat × Nat × Nat)) := [(0, (.iconst 0, 1), (0, 0, 0)), (1, (.istore_n 3, 1), (0, 0, 0)), (2, (.iconst 0, 1), (0, 0, 0)), (3, (.istore 4, 2), (0, 0, 0)), (5, (.iload 4, 2), (0, 0, 0)), (7, (.aload_n 0, 1), (0, 0, 0)), (8, (.getfield 156, 3), (11, 22, 44)), (11, (.iload_n 1, 1), (0, 0, 0)), (12, (.iaload, 1), (0, 0, 0)), (13, (.if_icmp .ge 241, 3), (0, 0, 0)), (16, (.aload_n 0, 1), (0, 0, 0)), (17, (.getfield 177, 3), (11, 23, 46)), (20, (.bipush 30, 2), (0, 0, 0)), (22, (.iload_n 1, 1), (0, 0, 0)), (23, (.imul, 1), (0, 0, 0)), (24, (.iload 4, 2), (0, 0, 0)), (26, (.iadd, 1), (0, 0, 0)), (27, (.iaload, 1), (0, 0, 0)), (28, (.istore 5, 2), (0, 0, 0)), (30, (.aload_n 0, 1), (0, 0, 0)), (31, (.getfield 180, 3), (11, 24, 48)), (34, (.bipush 30, 2), (0, 0, 0)), (36, (.iload_n 1, 1), (0, 0, 0)), (37, (.imul, 1), (0, 0, 0)), (38, (.iload 4, 2), (0, 0, 0)), (40, (.iadd, 1), (0, 0, 0)), (41, (.iaload, 1), (0, 0, 0)), (42, (.istore 6, 2), (0, 0, 0)), (44, (.iload 5, 2), (0, 0, 0)), (46, (.bipush 110, 2), (0, 0, 0)), (48, (.if_icmp .eq 10, 3), (0, 0, 0)), (51, (.iload 5, 2), (0, 0, 0)), (53, (.bipush 64, 2), (0, 0, 0)), (55, (.if_icmp .ne 34, 3), (0, 0, 0)), (58, (.aload_n 0, 1), (0, 0, 0)), (59, (.getfield 282, 3), (11, 66, 132)), (62, (.iload_n 3, 1), (0, 0, 0)), (63, (.iload 5, 2), (0, 0, 0)), (65, (.bipush 110, 2), (0, 0, 0)), (67, (.if_icmp .ne 8, 3), (0, 0, 0)), (70, (.iload 6, 2), (0, 0, 0)), (72, (.goto 10, 3), (0, 0, 0)), (75, (.aload_n 0, 1), (0, 0, 0)), (76, (.getfield 285, 3), (11, 67, 134)), (79, (.iload 6, 2), (0, 0, 0)), (81, (.iaload, 1), (0, 0, 0)), (82, (.iastore, 1), (0, 0, 0)), (83, (.iinc 3 1, 3), (0, 0, 0)), (86, (.goto 162, 3), (0, 0, 0)), (89, (.iinc 3 (-1), 3), (0, 0, 0)), (92, (.aload_n 0, 1), (0, 0, 0)), (93, (.getfield 282, 3), (11, 66, 132)), (96, (.iload_n 3, 1), (0, 0, 0)), (97, (.iconst 1, 1), (0, 0, 0)), (98, (.isub, 1), (0, 0, 0)), (99, (.iaload, 1), (0, 0, 0)), (100, (.istore 7, 2), (0, 0, 0)), (102, (.aload_n 0, 1), (0, 0, 0)), (103, (.getfield 282, 3), (11, 66, 132)), (106, (.iload_n 3, 1), (0, 0, 0)), (107, (.iaload, 1), (0, 0, 0)), (108, (.istore 8, 2), (0, 0, 0)), (110, (.iload 5, 2), (0, 0, 0)), (112, (.bipush 47, 2), (0, 0, 0)), (114, (.if_icmp .eq 10, 3), (0, 0, 0)), (117, (.iload 5, 2), (0, 0, 0)), (119, (.bipush 37, 2), (0, 0, 0)), (121, (.if_icmp .ne 10, 3), (0, 0, 0)), (124, (.iload 8, 2), (0, 0, 0)), (126, (.ifCond .ne 5, 3), (0, 0, 0)), (129, (.iconst 1, 1), (0, 0, 0)), (130, (.ireturn, 1), (0, 0, 0)), (131, (.aload_n 0, 1), (0, 0, 0)), (132, (.getfield 282, 3), (11, 66, 132)), (135, (.iload_n 3, 1), (0, 0, 0)), (136, (.iconst 1, 1), (0, 0, 0)), (137, (.isub, 1), (0, 0, 0)), (138, (.iload 5, 2), (0, 0, 0)), (140, (.bipush 43, 2), (0, 0, 0)), (142, (.if_icmp .ne 11, 3), (0, 0, 0)), (145, (.iload 7, 2), (0, 0, 0)), (147, (.iload 8, 2), (0, 0, 0)), (149, (.iadd, 1), (0, 0, 0)), (150, (.goto 97, 3), (0, 0, 0)), (153, (.iload 5, 2), (0, 0, 0)), (155, (.bipush 45, 2), (0, 0, 0)), (157, (.if_icmp .ne 11, 3), (0, 0, 0)), (160, (.iload 7, 2), (0, 0, 0)), (162, (.iload 8, 2), (0, 0, 0)), (164, (.isub, 1), (0, 0, 0)), (165, (.goto 82, 3), (0, 0, 0)), (168, (.iload 5, 2), (0, 0, 0)), (170, (.bipush 42, 2), (0, 0, 0)), (172, (.if_icmp .ne 11, 3), (0, 0, 0)), (175, (.iload 7, 2), (0, 0, 0)), (177, (.iload 8, 2), (0, 0, 0)), (179, (.imul, 1), (0, 0, 0)), (180, (.goto 67, 3), (0, 0, 0)), (183, (.iload 5, 2), (0, 0, 0)), (185, (.bipush 47, 2), (0, 0, 0)), (187, (.if_icmp .ne 23, 3), (0, 0, 0)), (190, (.iload 8, 2), (0, 0, 0)), (192, (.iconst (-1), 1), (0, 0, 0)), (193, (.if_icmp .ne 9, 3), (0, 0, 0)), (196, (.iload 7, 2), (0, 0, 0)), (198, (.ineg, 1), (0, 0, 0)), (199, (.goto 48, 3), (0, 0, 0)), (202, (.iload 7, 2), (0, 0, 0)), (204, (.iload 8, 2), (0, 0, 0)), (206, (.idiv, 1), (0, 0, 0)), (207, (.goto 40, 3), (0, 0, 0)), (210, (.iload 5, 2), (0, 0, 0)), (212, (.bipush 37, 2), (0, 0, 0)), (214, (.if_icmp .ne 21, 3), (0, 0, 0)), (217, (.iload 8, 2), (0, 0, 0)), (219, (.iconst (-1), 1), (0, 0, 0)), (220, (.if_icmp .ne 7, 3), (0, 0, 0)), (223, (.iconst 0, 1), (0, 0, 0)), (224, (.goto 23, 3), (0, 0, 0)), (227, (.iload 7, 2), (0, 0, 0)), (229, (.iload 8, 2), (0, 0, 0)), (231, (.irem, 1), (0, 0, 0)), (232, (.goto 15, 3), (0, 0, 0)), (235, (.iload 7, 2), (0, 0, 0)), (237, (.iload 8, 2), (0, 0, 0)), (239, (.if_icmp .ge 7, 3), (0, 0, 0)), (242, (.iconst 1, 1), (0, 0, 0)), (243, (.goto 4, 3), (0, 0, 0)), (246, (.iconst 0, 1), (0, 0, 0)), (247, (.iastore, 1), (0, 0, 0)), (248, (.iinc 4 1, 3), (0, 0, 0)), (251, (.goto (-246), 3), (0, 0, 0)), (254, (.aload_n 0, 1), (0, 0, 0)), (255, (.getfield 279, 3), (11, 65, 130)), (258, (.iload_n 2, 1), (0, 0, 0)), (259, (.aload_n 0, 1), (0, 0, 0)), (260, (.getfield 282, 3), (11, 66, 132)), (263, (.iconst 0, 1), (0, 0, 0)), (264, (.iaload, 1), (0, 0, 0)), (265, (.iastore, 1), (0, 0, 0)), (266, (.iconst 0, 1), (0, 0, 0)), (267, (.ireturn, 1), (0, 0, 0))]
/-- MixfixBenchModel.worked -/
def X_c198 : List (Nat × (Jvm.ClassFile.Instr × Nat) × (Nat × Nat × Nat)) := [(0, (.iload_n 1, 1), (0, 0, 0)), (1, (.ifCond .ne 21, 3), (0, 0, 0)), (4, (.aload_n 0, 1), (0, 0, 0)), (5, (.getfield 320, 3), (11, 68, 136)), (8, (.ifCond .eq 10, 3), (0, 0, 0)), (11, (.aload_n 0, 1), (0, 0, 0)), (12, (.getfield 399, 3), (11, 70, 140)), (15, (.goto 27, 3), (0, 0, 0)), (18, (.iconst 0, 1), (0, 0, 0)), (19, (.goto 23, 3), (0, 0, 0)), (22, (.iload_n 1, 1), (0, 0, 0)), (23, (.iconst 1, 1), (0, 0, 0)), (24, (.if_icmp .ne 17, 3), (0, 0, 0)), (27, (.aload_n 0, 1), (0, 0, 0)), (28, (.getfield 320, 3), (11, 68, 136)), (31, (.ifCond .eq 10, 3), (0, 0, 0)), (34, (.aload_n 0, 1), (0, 0, 0)), (35, (.getfield 402, 3), (11, 69, 138)), (38, (.goto 4, 3), (0, 0, 0)), (41, (.iconst (-1), 1), (0, 0, 0)), (42, (.ireturn, 1), (0, 0, 0))]
/-- MixfixBenchModel.sure -/
def X_c199 : List (Nat × (Jvm.ClassFile.Instr × Nat) × (Nat × Nat × Nat)) := [(0, (.iconst 0, 1), (0, 0, 0)), (1, (.istore_n 1, 1), (0, 0, 0)), (2, (.iload_n 1, 1), (0, 0, 0)), (3, (.aload_n 0, 1), (0, 0, 0)), (4, (.getfield 138, 3), (11, 30, 60)), (7, (.if_icmp .ge 41, 3), (0, 0, 0)), (10, (.iload_n 1, 1), (0, 0, 0)), (11, (.istore_n 2, 1), (0, 0, 0)), (12, (.iload_n 2, 1), (0, 0, 0)), (13, (.aload_n 0, 1), (0, 0, 0)), (14, (.getfield 138, 3), (11, 30, 60)), (17, (.if_icmp .ge 25, 3), (0, 0, 0)), (20, (.aload_n 0, 1), (0, 0, 0)), (21, (.iload_n 1, 1), (0, 0, 0)), (22, (.iload_n 2, 1), (0, 0, 0)), (23, (.invokevirtual 420, 3), (200, 96, 0)), (26, (.ifCond .eq 10, 3), (0, 0, 0)), (29, (.bipush 100, 2), (0, 0, 0)), (31, (.iload_n 1, 1), (0, 0, 0)), (32, (.imul, 1), (0, 0, 0)), (33, (.iload_n 2, 1), (0, 0, 0)), (34, (.iadd, 1), (0, 0, 0)), (35, (.ireturn, 1), (0, 0, 0)), (36, (.iinc 2 1, 3), (0, 0, 0)), (39, (.goto (-27), 3), (0, 0, 0)), (42, (.iinc 1 1, 3), (0, 0, 0)), (45, (.goto (-43), 3), (0, 0, 0)), (48, (.iconst (-1), 1), (0, 0, 0)), (49, (.ireturn, 1), (0, 0, 0))]
/-- MixfixBenchModel.isAgainst -/
def X_c200 : List (Nat × (Jvm.ClassFile.Instr × Nat) × (Nat × Nat × Nat)) := [(0, (.bipush 30, 2), (0, 0, 0)), (2, (.aload_n 0, 1), (0, 0, 0)), (3, (.getfield 91, 3), (11, 4, 8)), (6, (.imul, 1), (0, 0, 0)), (7, (.iload_n 1, 1), (0, 0, 0)), (8, (.iadd, 1), (0, 0, 0)), (9, (.istore_n 3, 1), (0, 0, 0)), (10, (.bipush 30, 2), (0, 0, 0)), (12, (.aload_n 0, 1), (0, 0, 0)), (13, (.getfield 91, 3), (11, 4, 8)), (16, (.imul, 1), (0, 0, 0)), (17, (.iload_n 2, 1), (0, 0, 0)), (18, (.iadd, 1), (0, 0, 0)), (19, (.istore 4, 2), (0, 0, 0)), (21, (.iconst 0, 1), (0, 0, 0)), (22, (.istore 5, 2), (0, 0, 0)), (24, (.iload 5, 2), (0, 0, 0)), (26, (.aload_n 0, 1), (0, 0, 0)), (27, (.getfield 150, 3), (11, 20, 40)), (30, (.iload_n 3, 1), (0, 0, 0)), (31, (.iaload, 1), (0, 0, 0)), (32, (.if_icmp .ge 84, 3), (0, 0, 0)), (35, (.aload_n 0, 1), (0, 0, 0)), (36, (.getfield 168, 3), (11, 25, 50)), (39, (.bipush 8, 2), (0, 0, 0)), (41, (.iload_n 3, 1), (0, 0, 0)), (42, (.imul, 1), (0, 0, 0)), (43, (.iload 5, 2), (0, 0, 0)), (45, (.iadd, 1), (0, 0, 0)), (46, (.laload, 1), (0, 0, 0)), (47, (.lstore 6, 2), (0, 0, 0)), (49, (.iload_n 1, 1), (0, 0, 0)), (50, (.iload_n 2, 1), (0, 0, 0)), (51, (.if_icmp .ne 10, 3), (0, 0, 0)), (54, (.iload 5, 2), (0, 0, 0)), (56, (.iconst 1, 1), (0, 0, 0)), (57, (.iadd, 1), (0, 0, 0)), (58, (.goto 4, 3), (0, 0, 0)), (61, (.iconst 0, 1), (0, 0, 0)), (62, (.istore 8, 2), (0, 0, 0)), (64, (.iload 8, 2), (0, 0, 0)), (66, (.aload_n 0, 1), (0, 0, 0)), (67, (.getfield 150, 3), (11, 20, 40)), (70, (.iload 4, 2), (0, 0, 0)), (72, (.iaload, 1), (0, 0, 0)), (73, (.if_icmp .ge 37, 3), (0, 0, 0)), (76, (.lload 6, 2), (0, 0, 0)), (78, (.lconst 0, 1), (0, 0, 0)), (79, (.lcmp, 1), (0, 0, 0)), (80, (.ifCond .eq 24, 3), (0, 0, 0)), (83, (.lload 6, 2), (0, 0, 0)), (85, (.aload_n 0, 1), (0, 0, 0)), (86, (.getfield 168, 3), (11, 25, 50)), (89, (.bipush 8, 2), (0, 0, 0)), (91, (.iload 4, 2), (0, 0, 0)), (93, (.imul, 1), (0, 0, 0)), (94, (.iload 8, 2), (0, 0, 0)), (96, (.iadd, 1), (0, 0, 0)), (97, (.laload, 1), (0, 0, 0)), (98, (.lcmp, 1), (0, 0, 0)), (99, (.ifCond .ne 5, 3), (0, 0, 0)), (102, (.iconst 1, 1), (0, 0, 0)), (103, (.ireturn, 1), (0, 0, 0)), (104, (.iinc 8 1, 3), (0, 0, 0)), (107, (.goto (-43), 3), (0, 0, 0)), (110, (.iinc 5 1, 3), (0, 0, 0)), (113, (.goto (-89), 3), (0, 0, 0)), (116, (.iload_n 1, 1), (0, 0, 0)), (117, (.iload_n 2, 1), (0, 0, 0)), (118, (.if_icmp .ne 27, 3), (0, 0, 0)), (121, (.aload_n 0, 1), (0, 0, 0)), (122, (.iload_n 3, 1), (0, 0, 0)), (123, (.invokevirtual 162, 3), (160, 46, 0)), (126, (.iconst 3, 1), (0, 0, 0)), (127, (.if_icmp .ne 16, 3), (0, 0, 0)), (130, (.aload_n 0, 1), (0, 0, 0)), (131, (.getfield 144, 3), (11, 18, 36)), (134, (.iload_n 3, 1), (0, 0, 0)), (135, (.iaload, 1), (0, 0, 0)), (136, (.ifCond .ne 7, 3), (0, 0, 0)), (139, (.iconst 1, 1), (0, 0, 0)), (140, (.goto 4, 3), (0, 0, 0)), (143, (.iconst 0, 1), (0, 0, 0)), (144, (.ireturn, 1), (0, 0, 0)), (145, (.aload_n 0, 1), (0, 0, 0)), (146, (.iload_n 3, 1), (0, 0, 0)), (147, (.invokevirtual 162, 3), (160, 46, 0)), (150, (.ifCond .eq 52, 3), (0, 0, 0)), (153, (.aload_n 0, 1), (0, 0, 0)), (154, (.iload 4, 2), (0, 0, 0)), (156, (.invokevirtual 162, 3), (160, 46, 0)), (159, (.ifCond .eq 43, 3), (0, 0, 0)), (162, (.aload_n 0, 1), (0, 0, 0)), (163, (.aload_n 0, 1), (0, 0, 0)), (164, (.getfield 141, 3), (11, 17, 34)), (167, (.iload_n 3, 1), (0, 0, 0)), (168, (.iaload, 1), (0, 0, 0)), (169, (.aload_n 0, 1), (0, 0, 0)), (170, (.getfield 141, 3), (11, 17, 34)), (173, (.iload 4, 2), (0, 0, 0)), (175, (.iaload, 1), (0, 0, 0)), (176, (.invokevirtual 123, 3), (154, 32, 0)), (179, (.ifCond .ne 23, 3), (0, 0, 0)), (182, (.aload_n 0, 1), (0, 0, 0)), (183, (.aload_n 0, 1), (0, 0, 0)), (184, (.getfield 141, 3), (11, 17, 34)), (187, (.iload 4, 2), (0, 0, 0)), (189, (.iaload, 1), (0, 0, 0)), (190, (.aload_n 0, 1), (0, 0, 0)), (191, (.getfield 141, 3), (11, 17, 34)), (194, (.iload_n 3, 1), (0, 0, 0)), (195, (.iaload, 1), (0, 0, 0)), (196, (.invokevirtual 123, 3), (154, 32, 0)), (199, (.ifCond .eq 5, 3), (0, 0, 0)), (202, (.iconst 0, 1), (0, 0, 0)), (203, (.ireturn, 1), (0, 0, 0)), (204, (.aload_n 0, 1), (0, 0, 0)), (205, (.getfield 141, 3), (11, 17, 34)), (208, (.iload_n 3, 1), (0, 0, 0)), (209, (.iaload, 1), (0, 0, 0)), (210, (.aload_n 0, 1), (0, 0, 0)), (211, (.getfield 141, 3), (11, 17, 34)), (214, (.iload 4, 2), (0, 0, 0)), (216, (.iaload, 1), (0, 0, 0)), (217, (.if_icmp .ne 28, 3), (0, 0, 0)), (220, (.aload_n 0, 1), (0, 0, 0)), (221, (.getfield 144, 3), (11, 18, 36)), (224, (.iload_n 3, 1), (0, 0, 0)), (225, (.iaload, 1), (0, 0, 0)), (226, (.ifCond .eq 19, 3), (0, 0, 0)), (229, (.aload_n 0, 1), (0, 0, 0)), (230, (.getfield 144, 3), (11, 18, 36)), (233, (.iload_n 3, 1), (0, 0, 0)), (234, (.iaload, 1), (0, 0, 0)), (235, (.aload_n 0, 1), (0, 0, 0)), (236, (.getfield 144, 3), (11, 18, 36)), (239, (.iload 4, 2), (0, 0, 0)), (241, (.iaload, 1), (0, 0, 0)), (242, (.if_icmp .eq 7, 3), (0, 0, 0)), (245, (.iconst 1, 1), (0, 0, 0)), (246, (.goto 4, 3), (0, 0, 0)), (249, (.iconst 0, 1), (0, 0, 0)), (250, (.ireturn, 1), (0, 0, 0))]
/-- MixfixBenchModel.feed -/
def X_c201 : List (Nat × (Jvm.ClassFile.Instr × Nat) × (Nat × Nat × Nat)) := [(0, (.aload_n 0, 1), (0, 0, 0)), (1, (.getfield 293, 3), (11, 1, 2)), (4, (.bipush 20, 2), (0, 0, 0)), (6, (.iadd, 1), (0, 0, 0)), (7, (.sipush 2000, 3), (0, 0, 0)), (10, (.if_icmp .le 5, 3), (0, 0, 0)), (13, (.iconst (-1), 1), (0, 0, 0)), (14, (.ireturn, 1), (0, 0, 0)), (15, (.iconst 0, 1), (0, 0, 0)), (16, (.istore 6, 2), (0, 0, 0)), (18, (.iload 6, 2), (0, 0, 0)), (20, (.bipush 20, 2), (0, 0, 0)), (22, (.if_icmp .ge 83, 3), (0, 0, 0)), (25, (.iload 6, 2), (0, 0, 0)), (27, (.iconst 4, 1), (0, 0, 0)), (28, (.if_icmp .ge 7, 3), (0, 0, 0)), (31, (.iload_n 1, 1), (0, 0, 0)), (32, (.goto 39, 3), (0, 0, 0)), (35, (.iload 6, 2), (0, 0, 0)), (37, (.bipush 8, 2), (0, 0, 0)), (39, (.if_icmp .ge 7, 3), (0, 0, 0)), (42, (.iload_n 2, 1), (0, 0, 0)), (43, (.goto 28, 3), (0, 0, 0)), (46, (.iload 6, 2), (0, 0, 0)), (48, (.bipush 12, 2), (0, 0, 0)), (50, (.if_icmp .ge 7, 3), (0, 0, 0)), (53, (.iload_n 3, 1), (0, 0, 0)), (54, (.goto 17, 3), (0, 0, 0)), (57, (.iload 6, 2), (0, 0, 0)), (59, (.bipush 16, 2), (0, 0, 0)), (61, (.if_icmp .ge 8, 3), (0, 0, 0)), (64, (.iload 4, 2), (0, 0, 0)), (66, (.goto 5, 3), (0, 0, 0)), (69, (.iload 5, 2), (0, 0, 0)), (71, (.istore 7, 2), (0, 0, 0)), (73, (.aload_n 0, 1), (0, 0, 0)), (74, (.getfield 188, 3), (11, 0, 0)), (77, (.aload_n 0, 1), (0, 0, 0)), (78, (.getfield 293, 3), (11, 1, 2)), (81, (.iload 6, 2), (0, 0, 0)), (83, (.iadd, 1), (0, 0, 0)), (84, (.iload 7, 2), (0, 0, 0)), (86, (.bipush 24, 2), (0, 0, 0)), (88, (.bipush 8, 2), (0, 0, 0)), (90, (.iload 6, 2), (0, 0, 0)), (92, (.iconst 3, 1), (0, 0, 0)), (93, (.iand, 1), (0, 0, 0)), (94, (.imul, 1), (0, 0, 0)), (95, (.isub, 1), (0, 0, 0)), (96, (.ishr, 1), (0, 0, 0)), (97, (.i2b, 1), (0, 0, 0)), (98, (.bastore, 1), (0, 0, 0)), (99, (.iinc 6 1, 3), (0, 0, 0)), (102, (.goto (-84), 3), (0, 0, 0)), (105, (.aload_n 0, 1), (0, 0, 0)), (106, (.dup, 1), (0, 0, 0)), (107, (.getfield 293, 3), (11, 1, 2)), (110, (.bipush 20, 2), (0, 0, 0)), (112, (.iadd, 1), (0, 0, 0)), (113, (.putfield 293, 3), (11, 1, 2)), (116, (.aload_n 0, 1), (0, 0, 0)), (117, (.getfield 293, 3), (11, 1, 2)), (120, (.ireturn, 1), (0, 0, 0))]
/-- MixfixBenchModel.end -/
def X_c202 : List (Nat × (Jvm.ClassFile.Instr × Nat) × (Nat × Nat × Nat)) := [(0, (.iload_n 1, 1), (0, 0, 0)), (1, (.ifCond .lt 11, 3), (0, 0, 0)), (4, (.iload_n 1, 1), (0, 0, 0)), (5, (.aload_n 0, 1), (0, 0, 0)), (6, (.getfield 293, 3), (11, 1, 2)), (9, (.if_icmp .le 5, 3), (0, 0, 0)), (12, (.iconst (-1), 1), (0, 0, 0)), (13, (.ireturn, 1), (0, 0, 0)), (14, (.aload_n 0, 1), (0, 0, 0)), (15, (.iload_n 1, 1), (0, 0, 0)), (16, (.putfield 293, 3), (11, 1, 2)), (19, (.iload_n 1, 1), (0, 0, 0)), (20, (.ireturn, 1), (0, 0, 0))]
/-- MixfixBenchLaw.law -/
def X_c203 : List (Nat × (Jvm.ClassFile.Instr × Nat) × (Nat × Nat × Nat)) := [(0, (.new 7, 3), (10, 96, 0)), (3, (.dup, 1), (0, 0, 0)), (4, (.invokespecial 9, 3), (112, 0, 0)), (7, (.astore_n 1, 1), (0, 0, 0)), (8, (.new 10, 3), (11, 1037, 0)), (11, (.dup, 1), (0, 0, 0)), (12, (.invokespecial 12, 3), (161, 36, 0)), (15, (.astore_n 2, 1), (0, 0, 0)), (16, (.iconst 0, 1), (0, 0, 0)), (17, (.istore_n 3, 1), (0, 0, 0)), (18, (.iload_n 3, 1), (0, 0, 0)), (19, (.aload_n 0, 1), (0, 0, 0)), (20, (.arraylength, 1), (1, 0, 0)), (21, (.bipush 6, 2), (0, 0, 0)), (23, (.isub, 1), (0, 0, 0)), (24, (.if_icmp .gt 570, 3), (0, 0, 0)), (27, (.aload_n 0, 1), (0, 0, 0)), (28, (.iload_n 3, 1), (0, 0, 0)), (29, (.iaload, 1), (1, 0, 0)), (30, (.bipush 31, 2), (0, 0, 0)), (32, (.iand, 1), (0, 0, 0)), (33, (.tableswitch 555 0 16 #[83, 146, 169, 182, 205, 228, 261, 294, 327, 340, 374, 387, 440, 473, 506, 519, 542], 83), (0, 0, 0)), (116, (.aload_n 1, 1), (0, 0, 0)), (117, (.aload_n 0, 1), (0, 0, 0)), (118, (.iload_n 3, 1), (0, 0, 0)), (119, (.iconst 1, 1), (0, 0, 0)), (120, (.iadd, 1), (0, 0, 0)), (121, (.iaload, 1), (1, 0, 0)), (122, (.aload_n 0, 1), (0, 0, 0)), (123, (.iload_n 3, 1), (0, 0, 0)), (124, (.iconst 2, 1), (0, 0, 0)), (125, (.iadd, 1), (0, 0, 0)), (126, (.iaload, 1), (1, 0, 0)), (127, (.aload_n 0, 1), (0, 0, 0)), (128, (.iload_n 3, 1), (0, 0, 0)), (129, (.iconst 3, 1), (0, 0, 0)), (130, (.iadd, 1), (0, 0, 0)), (131, (.iaload, 1), (1, 0, 0)), (132, (.aload_n 0, 1), (0, 0, 0)), (133, (.iload_n 3, 1), (0, 0, 0)), (134, (.iconst 4, 1), (0, 0, 0)), (135, (.iadd, 1), (0, 0, 0)), (136, (.iaload, 1), (1, 0, 0)), (137, (.aload_n 0, 1), (0, 0, 0)), (138, (.iload_n 3, 1), (0, 0, 0)), (139, (.iconst 5, 1), (0, 0, 0)), (140, (.iadd, 1), (0, 0, 0)), (141, (.iaload, 1), (1, 0, 0)), (142, (.invokevirtual 13, 3), (113, 2, 0)), (145, (.aload_n 2, 1), (0, 0, 0)), (146, (.aload_n 0, 1), (0, 0, 0)), (147, (.iload_n 3, 1), (0, 0, 0)), (148, (.iconst 1, 1), (0, 0, 0)), (149, (.iadd, 1), (0, 0, 0)), (150, (.iaload, 1), (1, 0, 0)), (151, (.aload_n 0, 1), (0, 0, 0)), (152, (.iload_n 3, 1), (0, 0, 0)), (153, (.iconst 2, 1), (0, 0, 0)), (154, (.iadd, 1), (0, 0, 0)), (155, (.iaload, 1), (1, 0, 0)), (156, (.aload_n 0, 1), (0, 0, 0)), (157, (.iload_n 3, 1), (0, 0, 0)), (158, (.iconst 3, 1), (0, 0, 0)), (159, (.iadd, 1), (0, 0, 0)), (160, (.iaload, 1), (1, 0, 0)), (161, (.aload_n 0, 1), (0, 0, 0)), (162, (.iload_n 3, 1), (0, 0, 0)), (163, (.iconst 4, 1), (0, 0, 0)), (164, (.iadd, 1), (0, 0, 0)), (165, (.iaload, 1), (1, 0, 0)), (166, (.aload_n 0, 1), (0, 0, 0)), (167, (.iload_n 3, 1), (0, 0, 0)), (168, (.iconst 5, 1), (0, 0, 0)), (169, (.iadd, 1), (0, 0, 0)), (170, (.iaload, 1), (1, 0, 0)), (171, (.invokevirtual 17, 3), (201, 68, 0)), (174, (.if_icmp .eq 414, 3), (0, 0, 0)), (177, (.iconst 0, 1), (0, 0, 0)), (178, (.ireturn, 1), (0, 0, 0)), (179, (.aload_n 1, 1), (0, 0, 0)), (180, (.aload_n 0, 1), (0, 0, 0)), (181, (.iload_n 3, 1), (0, 0, 0)), (182, (.iconst 1, 1), (0, 0, 0)), (183, (.iadd, 1), (0, 0, 0)), (184, (.iaload, 1), (1, 0, 0)), (185, (.invokevirtual 18, 3), (114, 4, 0)), (188, (.aload_n 2, 1), (0, 0, 0)), (189, (.aload_n 0, 1), (0, 0, 0)), (190, (.iload_n 3, 1), (0, 0, 0)), (191, (.iconst 1, 1), (0, 0, 0)), (192, (.iadd, 1), (0, 0, 0)), (193, (.iaload, 1), (1, 0, 0)), (194, (.invokevirtual 22, 3), (202, 70, 0)), (197, (.if_icmp .eq 391, 3), (0, 0, 0)), (200, (.iconst 0, 1), (0, 0, 0)), (201, (.ireturn, 1), (0, 0, 0)), (202, (.aload_n 1, 1), (0, 0, 0)), (203, (.invokevirtual 23, 3), (115, 6, 0)), (206, (.aload_n 2, 1), (0, 0, 0)), (207, (.invokevirtual 27, 3), (162, 38, 0)), (210, (.if_icmp .eq 378, 3), (0, 0, 0)), (213, (.iconst 0, 1), (0, 0, 0)), (214, (.ireturn, 1), (0, 0, 0)), (215, (.aload_n 1, 1), (0, 0, 0)), (216, (.aload_n 0, 1), (0, 0, 0)), (217, (.iload_n 3, 1), (0, 0, 0)), (218, (.iconst 1, 1), (0, 0, 0)), (219, (.iadd, 1), (0, 0, 0)), (220, (.iaload, 1), (1, 0, 0)), (221, (.invokevirtual 28, 3), (116, 8, 0)), (224, (.aload_n 2, 1), (0, 0, 0)), (225, (.aload_n 0, 1), (0, 0, 0)), (226, (.iload_n 3, 1), (0, 0, 0)), (227, (.iconst 1, 1), (0, 0, 0)), (228, (.iadd, 1), (0, 0, 0)), (229, (.iaload, 1), (1, 0, 0)), (230, (.invokevirtual 31, 3), (163, 40, 0)), (233, (.if_icmp .eq 355, 3), (0, 0, 0)), (236, (.iconst 0, 1), (0, 0, 0)), (237, (.ireturn, 1), (0, 0, 0)), (238, (.aload_n 1, 1), (0, 0, 0)), (239, (.aload_n 0, 1), (0, 0, 0)), (240, (.iload_n 3, 1), (0, 0, 0)), (241, (.iconst 1, 1), (0, 0, 0)), (242, (.iadd, 1), (0, 0, 0)), (243, (.iaload, 1), (1, 0, 0)), (244, (.invokevirtual 32, 3), (117, 10, 0)), (247, (.aload_n 2, 1), (0, 0, 0)), (248, (.aload_n 0, 1), (0, 0, 0)), (249, (.iload_n 3, 1), (0, 0, 0)), (250, (.iconst 1, 1), (0, 0, 0)), (251, (.iadd, 1), (0, 0, 0)), (252, (.iaload, 1), (1, 0, 0)), (253, (.invokevirtual 35, 3), (164, 42, 0)), (256, (.if_icmp .eq 332, 3), (0, 0, 0)), (259, (.iconst 0, 1), (0, 0, 0)), (260, (.ireturn, 1), (0, 0, 0)), (261, (.aload_n 1, 1), (0, 0, 0)), (262, (.aload_n 0, 1), (0, 0, 0)), (263, (.iload_n 3, 1), (0, 0, 0)), (264, (.iconst 1, 1), (0, 0, 0)), (265, (.iadd, 1), (0, 0, 0)), (266, (.iaload, 1), (1, 0, 0)), (267, (.aload_n 0, 1), (0, 0, 0)), (268, (.iload_n 3, 1), (0, 0, 0)), (269, (.iconst 2, 1), (0, 0, 0)), (270, (.iadd, 1), (0, 0, 0)), (271, (.iaload, 1), (1, 0, 0)), (272, (.invokevirtual 36, 3), (118, 12, 0)), (275, (.aload_n 2, 1), (0, 0, 0)), (276, (.aload_n 0, 1), (0, 0, 0)), (277, (.iload_n 3, 1), (0, 0, 0)), (278, (.iconst 1, 1), (0, 0, 0)), (279, (.iadd, 1), (0, 0, 0)), (280, (.iaload, 1), (1, 0, 0)), (281, (.aload_n 0, 1), (0, 0, 0)), (282, (.iload_n 3, 1), (0, 0, 0)), (283, (.iconst 2, 1), (0, 0, 0)), (284, (.iadd, 1), (0, 0, 0)), (285, (.iaload, 1), (1, 0, 0)), (286, (.invokevirtual 40, 3), (166, 44, 0)), (289, (.if_icmp .eq 299, 3), (0, 0, 0)), (292, (.iconst 0, 1), (0, 0, 0)), (293, (.ireturn, 1), (0, 0, 0)), (294, (.aload_n 1, 1), (0, 0, 0)), (295, (.aload_n 0, 1), (0, 0, 0)), (296, (.iload_n 3, 1), (0, 0, 0)), (297, (.iconst 1, 1), (0, 0, 0)), (298, (.iadd, 1), (0, 0, 0)), (299, (.iaload, 1), (1, 0, 0)), (300, (.aload_n 0, 1), (0, 0, 0)), (301, (.iload_n 3, 1), (0, 0, 0)), (302, (.iconst 2, 1), (0, 0, 0)), (303, (.iadd, 1), (0, 0, 0)), (304, (.iaload, 1), (1, 0, 0)), (305, (.invokevirtual 41, 3), (119, 14, 0)), (308, (.aload_n 2, 1), (0, 0, 0)), (309, (.aload_n 0, 1), (0, 0, 0)), (310, (.iload_n 3, 1), (0, 0, 0)), (311, (.iconst 1, 1), (0, 0, 0)), (312, (.iadd, 1), (0, 0, 0)), (313, (.iaload, 1), (1, 0, 0)), (314, (.aload_n 0, 1), (0, 0, 0)), (315, (.iload_n 3, 1), (0, 0, 0)), (316, (.iconst 2, 1), (0, 0, 0)), (317, (.iadd, 1), (0, 0, 0)), (318, (.iaload, 1), (1, 0, 0)), (319, (.invokevirtual 44, 3), (167, 46, 0)), (322, (.if_icmp .eq 266, 3), (0, 0, 0)), (325, (.iconst 0, 1), (0, 0, 0)), (326, (.ireturn, 1), (0, 0, 0)), (327, (.aload_n 1, 1), (0, 0, 0)), (328, (.aload_n 0, 1), (0, 0, 0)), (329, (.iload_n 3, 1), (0, 0, 0)), (330, (.iconst 1, 1), (0, 0, 0)), (331, (.iadd, 1), (0, 0, 0)), (332, (.iaload, 1), (1, 0, 0)), (333, (.aload_n 0, 1), (0, 0, 0)), (334, (.iload_n 3, 1), (0, 0, 0)), (335, (.iconst 2, 1), (0, 0, 0)), (336, (.iadd, 1), (0, 0, 0)), (337, (.iaload, 1), (1, 0, 0)), (338, (.invokevirtual 45, 3), (120, 16, 0)), (341, (.aload_n 2, 1), (0, 0, 0)), (342, (.aload_n 0, 1), (0, 0, 0)), (343, (.iload_n 3, 1), (0, 0, 0)), (344, (.iconst 1, 1), (0, 0, 0)), (345, (.iadd, 1), (0, 0, 0)), (346, (.iaload, 1), (1, 0, 0)), (347, (.aload_n 0, 1), (0, 0, 0)), (348, (.iload_n 3, 1), (0, 0, 0)), (349, (.iconst 2, 1), (0, 0, 0)), (350, (.iadd, 1), (0, 0, 0)), (351, (.iaload, 1), (1, 0, 0)), (352, (.invokevirtual 48, 3), (169, 48, 0)), (355, (.if_icmp .eq 233, 3), (0, 0, 0)), (358, (.iconst 0, 1), (0, 0, 0)), (359, (.ireturn, 1), (0, 0, 0)), (360, (.aload_n 1, 1), (0, 0, 0)), (361, (.invokevirtual 49, 3), (121, 18, 0)), (364, (.aload_n 2, 1), (0, 0, 0)), (365, (.invokevirtual 52, 3), (170, 50, 0)), (368, (.if_icmp .eq 220, 3), (0, 0, 0)), (371, (.iconst 0, 1), (0, 0, 0)), (372, (.ireturn, 1), (0, 0, 0)), (373, (.aload_n 1, 1), (0, 0, 0)), (374, (.aload_n 0, 1), (0, 0, 0)), (375, (.iload_n 3, 1), (0, 0, 0)), (376, (.iconst 1, 1), (0, 0, 0)), (377, (.iadd, 1), (0, 0, 0)), (378, (.iaload, 1), (1, 0, 0)), (379, (.aload_n 0, 1), (0, 0, 0)), (380, (.iload_n 3, 1), (0, 0, 0)), (381, (.iconst 2, 1), (0, 0, 0)), (382, (.iadd, 1), (0, 0, 0)), (383, (.iaload, 1), (1, 0, 0)), (384, (.invokevirtual 53, 3), (122, 20, 0)), (387, (.aload_n 2, 1), (0, 0, 0)), (388, (.aload_n 0, 1), (0, 0, 0)), (389, (.iload_n 3, 1), (0, 0, 0)), (390, (.iconst 1, 1), (0, 0, 0)), (391, (.iadd, 1), (0, 0, 0)), (392, (.iaload, 1), (1, 0, 0)), (393, (.aload_n 0, 1), (0, 0, 0)), (394, (.iload_n 3, 1), (0, 0, 0)), (395, (.iconst 2, 1), (0, 0, 0)), (396, (.iadd, 1), (0, 0, 0)), (397, (.iaload, 1), (1, 0, 0)), (398, (.invokevirtual 57, 3), (183, 52, 0)), (401, (.lcmp, 1), (0, 0, 0)), (402, (.ifCond .eq 186, 3), (0, 0, 0)), (405, (.iconst 0, 1), (0, 0, 0)), (406, (.ireturn, 1), (0, 0, 0)), (407, (.aload_n 1, 1), (0, 0, 0)), (408, (.invokevirtual 58, 3), (123, 22, 0)), (411, (.aload_n 2, 1), (0, 0, 0)), (412, (.invokevirtual 61, 3), (184, 54, 0)), (415, (.if_icmp .eq 173, 3), (0, 0, 0)), (418, (.iconst 0, 1), (0, 0, 0)), (419, (.ireturn, 1), (0, 0, 0)), (420, (.aload_n 1, 1), (0, 0, 0)), (421, (.aload_n 0, 1), (0, 0, 0)), (422, (.iload_n 3, 1), (0, 0, 0)), (423, (.iconst 1, 1), (0, 0, 0)), (424, (.iadd, 1), (0, 0, 0)), (425, (.iaload, 1), (1, 0, 0)), (426, (.i2l, 1), (0, 0, 0)), (427, (.bipush 32, 2), (0, 0, 0)), (429, (.lshl, 1), (0, 0, 0)), (430, (.aload_n 0, 1), (0, 0, 0)), (431, (.iload_n 3, 1), (0, 0, 0)), (432, (.iconst 2, 1), (0, 0, 0)), (433, (.iadd, 1), (0, 0, 0)), (434, (.iaload, 1), (1, 0, 0)), (435, (.i2l, 1), (0, 0, 0)), (436, (.ldc2_w 62, 3), (4294967295, 1533, 0)), (439, (.land, 1), (0, 0, 0)), (440, (.lor, 1), (0, 0, 0)), (441, (.invokevirtual 64, 3), (124, 24, 0)), (444, (.aload_n 2, 1), (0, 0, 0)), (445, (.aload_n 0, 1), (0, 0, 0)), (446, (.iload_n 3, 1), (0, 0, 0)), (447, (.iconst 1, 1), (0, 0, 0)), (448, (.iadd, 1), (0, 0, 0)), (449, (.iaload, 1), (1, 0, 0)), (450, (.i2l, 1), (0, 0, 0)), (451, (.bipush 32, 2), (0, 0, 0)), (453, (.lshl, 1), (0, 0, 0)), (454, (.aload_n 0, 1), (0, 0, 0)), (455, (.iload_n 3, 1), (0, 0, 0)), (456, (.iconst 2, 1), (0, 0, 0)), (457, (.iadd, 1), (0, 0, 0)), (458, (.iaload, 1), (1, 0, 0)), (459, (.i2l, 1), (0, 0, 0)), (460, (.ldc2_w 62, 3), (4294967295, 1533, 0)), (463, (.land, 1), (0, 0, 0)), (464, (.lor, 1), (0, 0, 0)), (465, (.invokevirtual 68, 3), (186, 56, 0)), (468, (.if_icmp .eq 120, 3), (0, 0, 0)), (471, (.iconst 0, 1), (0, 0, 0)), (472, (.ireturn, 1), (0, 0, 0)), (473, (.aload_n 1, 1), (0, 0, 0)), (474, (.aload_n 0, 1), (0, 0, 0)), (475, (.iload_n 3, 1), (0, 0, 0)), (476, (.iconst 1, 1), (0, 0, 0)), (477, (.iadd, 1), (0, 0, 0)), (478, (.iaload, 1), (1, 0, 0)), (479, (.aload_n 0, 1), (0, 0, 0)), (480, (.iload_n 3, 1), (0, 0, 0)), (481, (.iconst 2, 1), (0, 0, 0)), (482, (.iadd, 1), (0, 0, 0)), (483, (.iaload, 1), (1, 0, 0)), (484, (.invokevirtual 69, 3), (125, 26, 0)), (487, (.aload_n 2, 1), (0, 0, 0)), (488, (.aload_n 0, 1), (0, 0, 0)), (489, (.iload_n 3, 1), (0, 0, 0)), (490, (.iconst 1, 1), (0, 0, 0)), (491, (.iadd, 1), (0, 0, 0)), (492, (.iaload, 1), (1, 0, 0)), (493, (.aload_n 0, 1), (0, 0, 0)), (494, (.iload_n 3, 1), (0, 0, 0)), (495, (.iconst 2, 1), (0, 0, 0)), (496, (.iadd, 1), (0, 0, 0)), (497, (.iaload, 1), (1, 0, 0)), (498, (.invokevirtual 72, 3), (190, 58, 0)), (501, (.if_icmp .eq 87, 3), (0, 0, 0)), (504, (.iconst 0, 1), (0, 0, 0)), (505, (.ireturn, 1), (0, 0, 0)), (506, (.aload_n 1, 1), (0, 0, 0)), (507, (.aload_n 0, 1), (0, 0, 0)), (508, (.iload_n 3, 1), (0, 0, 0)), (509, (.iconst 1, 1), (0, 0, 0)), (510, (.iadd, 1), (0, 0, 0)), (511, (.iaload, 1), (1, 0, 0)), (512, (.aload_n 0, 1), (0, 0, 0)), (513, (.iload_n 3, 1), (0, 0, 0)), (514, (.iconst 2, 1), (0, 0, 0)), (515, (.iadd, 1), (0, 0, 0)), (516, (.iaload, 1), (1, 0, 0)), (517, (.invokevirtual 73, 3), (126, 28, 0)), (520, (.aload_n 2, 1), (0, 0, 0)), (521, (.aload_n 0, 1), (0, 0, 0)), (522, (.iload_n 3, 1), (0, 0, 0)), (523, (.iconst 1, 1), (0, 0, 0)), (524, (.iadd, 1), (0, 0, 0)), (525, (.iaload, 1), (1, 0, 0)), (526, (.aload_n 0, 1), (0, 0, 0)), (527, (.iload_n 3, 1), (0, 0, 0)), (528, (.iconst 2, 1), (0, 0, 0)), (529, (.iadd, 1), (0, 0, 0)), (530, (.iaload, 1), (1, 0, 0)), (531, (.invokevirtual 77, 3), (191, 60, 0)), (534, (.if_icmp .eq 54, 3), (0, 0, 0)), (537, (.iconst 0, 1), (0, 0, 0)), (538, (.ireturn, 1), (0, 0, 0)), (539, (.aload_n 1, 1), (0, 0, 0)), (540, (.invokevirtual 78, 3), (127, 30, 0)), (543, (.aload_n 2, 1), (0, 0, 0)), (544, (.invokevirtual 81, 3), (193, 62, 0)), (547, (.if_icmp .eq 41, 3), (0, 0, 0)), (550, (.iconst 0, 1), (0, 0, 0)), (551, (.ireturn, 1), (0, 0, 0)), (552, (.aload_n 1, 1), (0, 0, 0)), (553, (.aload_n 0, 1), (0, 0, 0)), (554, (.iload_n 3, 1), (0, 0, 0)), (555, (.iconst 1, 1), (0, 0, 0)), (556, (.iadd, 1), (0, 0, 0)), (557, (.iaload, 1), (1, 0, 0)), (558, (.invokevirtual 82, 3), (128, 32, 0)), (561, (.aload_n 2, 1), (0, 0, 0)), (562, (.aload_n 0, 1), (0, 0, 0)), (563, (.iload_n 3, 1), (0, 0, 0)), (564, (.iconst 1, 1), (0, 0, 0)), (565, (.iadd, 1), (0, 0, 0)), (566, (.iaload, 1), (1, 0, 0)), (567, (.invokevirtual 85, 3), (198, 64, 0)), (570, (.if_icmp .eq 18, 3), (0, 0, 0)), (573, (.iconst 0, 1), (0, 0, 0)), (574, (.ireturn, 1), (0, 0, 0)), (575, (.aload_n 1, 1), (0, 0, 0)), (576, (.invokevirtual 86, 3), (129, 34, 0)), (579, (.aload_n 2, 1), (0, 0, 0)), (580, (.invokevirtual 89, 3), (199, 66, 0)), (583, (.if_icmp .eq 5, 3), (0, 0, 0)), (586, (.iconst 0, 1), (0, 0, 0)), (587, (.ireturn, 1), (0, 0, 0)), (588, (.iinc 3 6, 3), (0, 0, 0)), (591, (.goto (-573), 3), (0, 0, 0)), (594, (.iconst 1, 1), (0, 0, 0)), (595, (.ireturn, 1), (0, 0, 0))]
def X_CC0 : List (List (Nat × (Jvm.ClassFile.Instr × Nat) × (Nat × Nat × Nat))) := [X_c0, X_c1, X_c2, X_c3, X_c4, X_c5, X_c6, X_c7, X_c8, X_c9, X_c10, X_c11, X_c12, X_c13, X_c14, X_c15, X_c16]
def X_CC1 : List (List (Nat × (Jvm.ClassFile.Instr × Nat) × (Nat × Nat × Nat))) := [X_c17, X_c18, X_c19, X_c20, X_c21, X_c22, X_c23, X_c24, X_c25, X_c26, X_c27, X_c28, X_c29]
def X_CC2 : List (List (Nat × (Jvm.ClassFile.Instr × Nat) × (Nat × Nat × Nat))) := [X_c30, X_c31, X_c32, X_c33, X_c34, X_c35, X_c36]
def X_CC3 : List (List (Nat × (Jvm.ClassFile.Instr × Nat) × (Nat × Nat × Nat))) := [X_c37, X_c38, X_c39, X_c40, X_c41, X_c42]
def X_CC4 : List (List (Nat × (Jvm.ClassFile.Instr × Nat) × (Nat × Nat × Nat))) := [X_c43, X_c44, X_c45, X_c46]
def X_CC5 : List (List (Nat × (Jvm.ClassFile.Instr × Nat) × (Nat × Nat × Nat))) := [X_c47, X_c48, X_c49, X_c50, X_c51, X_c52, X_c53, X_c54, X_c55, X_c56]
def X_CC6 : List (List (Nat × (Jvm.ClassFile.Instr × Nat) × (Nat × Nat × Nat))) := [X_c57, X_c58, X_c59, X_c60, X_c61, X_c62, X_c63, X_c64, X_c65, X_c66, X_c67, X_c68]
def X_CC7 : List (List (Nat × (Jvm.ClassFile.Instr × Nat) × (Nat × Nat × Nat))) := [X_c69, X_c70, X_c71, X_c72, X_c73, X_c74, X_c75, X_c76]
def X_CC8 : List (List (Nat × (Jvm.ClassFile.Instr × Nat) × (Nat × Nat × Nat))) := [X_c77, X_c78, X_c79, X_c80, X_c81, X_c82, X_c83]
def X_CC9 : List (List (Nat × (Jvm.ClassFile.Instr × Nat) × (Nat × Nat × Nat))) := [X_c84, X_c85, X_c86, X_c87, X_c88, X_c89, X_c90, X_c91, X_c92, X_c93, X_c94, X_c95]
def X_CC10 : List (List (Nat × (Jvm.ClassFile.Instr × Nat) × (Nat × Nat × Nat))) := [X_c96, X_c97, X_c98, X_c99, X_c100, X_c101, X_c102, X_c103, X_c104, X_c105, X_c106, X_c107]
def X_CC11 : List (List (Nat × (Jvm.ClassFile.Instr × Nat) × (Nat × Nat × Nat))) := [X_c108, X_c109, X_c110, X_c111, X_c112, X_c113, X_c114, X_c115, X_c116, X_c117]
def X_CC12 : List (List (Nat × (Jvm.ClassFile.Instr × Nat) × (Nat × Nat × Nat))) := [X_c118, X_c119, X_c120, X_c121, X_c122, X_c123, X_c124, X_c125, X_c126, X_c127, X_c128, X_c129, X_c130]
def X_CC13 : List (List (Nat × (Jvm.ClassFile.Instr × Nat) × (Nat × Nat × Nat))) := [X_c131, X_c132, X_c133, X_c134, X_c135, X_c136, X_c137, X_c138, X_c139, X_c140]
def X_CC14 : List (List (Nat × (Jvm.ClassFile.Instr × Nat) × (Nat × Nat × Nat))) := [X_c141, X_c142]
def X_CC15 : List (List (Nat × (Jvm.ClassFile.Instr × Nat) × (Nat × Nat × Nat))) := [X_c143, X_c144, X_c145, X_c146, X_c147, X_c148, X_c149, X_c150, X_c151, X_c152, X_c153, X_c154]
def X_CC16 : List (List (Nat × (Jvm.ClassFile.Instr × Nat) × (Nat × Nat × Nat))) := [X_c155, X_c156, X_c157]
def X_CC17 : List (List (Nat × (Jvm.ClassFile.Instr × Nat) × (Nat × Nat × Nat))) := [X_c158, X_c159, X_c160]
def X_CC18 : List (List (Nat × (Jvm.ClassFile.Instr × Nat) × (Nat × Nat × Nat))) := [X_c161]
def X_CC19 : List (List (Nat × (Jvm.ClassFile.Instr × Nat) × (Nat × Nat × Nat))) := [X_c162, X_c163, X_c164, X_c165, X_c166, X_c167]
def X_CC20 : List (List (Nat × (Jvm.ClassFile.Instr × Nat) × (Nat × Nat × Nat))) := [X_c168, X_c169, X_c170, X_c171, X_c172, X_c173, X_c174]
def X_CC21 : List (List (Nat × (Jvm.ClassFile.Instr × Nat) × (Nat × Nat × Nat))) := [X_c175, X_c176, X_c177]
def X_CC22 : List (List (Nat × (Jvm.ClassFile.Instr × Nat) × (Nat × Nat × Nat))) := [X_c178, X_c179, X_c180]
def X_CC23 : List (List (Nat × (Jvm.ClassFile.Instr × Nat) × (Nat × Nat × Nat))) := [X_c181, X_c182, X_c183, X_c184, X_c185, X_c186]
def X_CC24 : List (List (Nat × (Jvm.ClassFile.Instr × Nat) × (Nat × Nat × Nat))) := [X_c187, X_c188]
def X_CC25 : List (List (Nat × (Jvm.ClassFile.Instr × Nat) × (Nat × Nat × Nat))) := [X_c189, X_c190, X_c191, X_c192]
def X_CC26 : List (List (Nat × (Jvm.ClassFile.Instr × Nat) × (Nat × Nat × Nat))) := [X_c193, X_c194, X_c195, X_c196, X_c197]
def X_CC27 : List (List (Nat × (Jvm.ClassFile.Instr × Nat) × (Nat × Nat × Nat))) := [X_c198, X_c199, X_c200, X_c201, X_c202]
def X_CC28 : List (List (Nat × (Jvm.ClassFile.Instr × Nat) × (Nat × Nat × Nat))) := [X_c203]
def X_C : List (List (Nat × (Jvm.ClassFile.Instr × Nat) × (Nat × Nat × Nat))) := X_CC0 ++ (X_CC1 ++ (X_CC2 ++ (X_CC3 ++ (X_CC4 ++ (X_CC5 ++ (X_CC6 ++ (X_CC7 ++ (X_CC8 ++ (X_CC9 ++ (X_CC10 ++ (X_CC11 ++ (X_CC12 ++ (X_CC13 ++ (X_CC14 ++ (X_CC15 ++ (X_CC16 ++ (X_CC17 ++ (X_CC18 ++ (X_CC19 ++ (X_CC20 ++ (X_CC21 ++ (X_CC22 ++ (X_CC23 ++ (X_CC24 ++ (X_CC25 ++ (X_CC26 ++ (X_CC27 ++ (X_CC28))))))))))))))))))))))))))))
end
section
abbrev X_Row : Type := Nat × (Jvm.ClassFile.Instr × Nat) × (Nat × Nat × Nat)
def X_row (j pc : Nat) : Option X_Row := match X_C[j]? with
  | some rows => rows.find? (fun r => r.1 == pc)
  | none => none
/-! what can be told of each row ahead: it is what the bytes decode to, and the words that it needs stand in the tables -/
def X_o (j : Nat) : Nat := match X_J[j]? with
  | some q => q.1
  | none => 99
def X_y (j : Nat) : MethodName := match X_J[j]? with
  | some q => q.2.1
  | none => x
def X_cp (j : Nat) : Nat := match X_J[j]? with
  | some q => q.2.2.1
  | none => 0
/-- a method's bytes, as its word in the tables has them -/
def X_b (j : Nat) : ByteArray := if j = X_lawj then code else match lw_tbl[X_cp j]? with
  | some (.code _ b _ _) => b
  | _ => code
def X_fr (j : Nat) : Nat := match X_J[j]? with
  | some q => q.2.2.2.1
  | none => 0
def X_lo (j : Nat) : Nat := match X_J[j]? with
  | some q => q.2.2.2.2.1
  | none => 0
def X_pl (j : Nat) : Nat × Nat × Nat := match X_J[j]? with
  | some q => q.2.2.2.2.2
  | none => (0, 0, 0)
def X_init (j : Nat) : Bool := decide ((X_y j).name = "<init>")
def X_wd (p : Nat) (w : Cond) : Bool := decide (lw_tbl[p]? = some w) && goodWord w
def X_ln (i : Jvm.ClassFile.Instr) (n : Nat) : Nat := match i with
  | .bipush _ | .ldc _ | .iload _ | .lload _ | .aload _ | .istore _ | .lstore _ | .astore _ | .newarray _ => 2
  | .sipush _ | .ldc2_w _ | .iinc _ _ | .ifCond _ _ | .if_icmp _ _ | .goto _ | .getfield _ | .putfield _ | .new _ | .anewarray _ | .invokevirtual _ | .invokespecial _ | .invokestatic _ => 3
  | .tableswitch _ _ _ _ | .lookupswitch _ _ => n
  | _ => 1
/-- a field's word by its entry: index in the pool, class, field, nest mate or not -/
def X_pfw (o : Nat) (e : Nat × Nat × Nat × Nat) : Cond := match X_cl[e.2.1]? with
  | some q => if e.2.2.2 = 0 then .fieldLink (X_R o) e.1 q.1 (q.2.1 e.2.2.1).2.1 (q.2.1 e.2.2.1).2.2.1 else .fieldLinkNest (X_R o) e.1 q.1 (q.2.1 e.2.2.1).2.1 (q.2.1 e.2.2.1).2.2.1 "MixfixBench"
  | none => .tt
/-- a method's word by its entry: index in the pool, method, nest mate or not -/
def X_pmw (o : Nat) (e : Nat × Nat × Nat) : Cond := if e.2.2 = 0 then .methodLink (X_R o) e.1 (X_y e.2.1) else .methodLinkNest (X_R o) e.1 (X_y e.2.1) "MixfixBench"
def X_isNest (w : Cond) : Bool := match w with
  | .fieldLinkNest _ _ _ _ _ _ => true
  | .methodLinkNest _ _ _ _ => true
  | _ => false
def X_nest : List Cond := lw_tbl.filter X_isNest
def X_PFl (o : Nat) : List (Nat × Nat × Nat × Nat) := X_PF.getD o []
def X_PMl (o : Nat) : List (Nat × Nat × Nat) := X_PM.getD o []
def X_kd (k : Nat) : Nat := X_KD.getD k 9
def X_fw (o idx : Nat) (ax : Nat × Nat × Nat) : Bool := match X_cl[ax.1]? with
  | some q => decide (ax.2.1 < q.2.2) && decide ((X_PFl o)[ax.2.2 / 2]? = some (idx, ax.1, ax.2.1, ax.2.2 % 2))
  | none => false
def X_fp (j o : Nat) (ax : Nat × Nat × Nat) : Bool := match X_cl[ax.1]? with
  | some q => if (q.2.1 ax.2.1).2.2.2 = true then decide (ax.2.2 % 2 = 0) && X_init j && decide ((q.2.1 ax.2.1).1 = X_R o) else true
  | none => false
/-- what can be told of a method that is called -/
def X_mok (k : Nat) : Bool :=
  (match lw_tbl[X_cp k]? with
    | some (.code y _ n r) => decide (y = X_y k) && decide (n = X_nL k) && decide (r = X_rt k) && decide (k ≠ X_lawj)
    | _ => false) && X_wd (X_pl k).1 (.initialized (X_y k).cls)
  && decide ((X_y k).cls ≠ "java/lang/invoke/MethodHandle") && decide ((X_y k).cls ≠ "java/lang/invoke/VarHandle")
  && decide ((parseMethodDescriptor (X_y k).desc).map (fun d => d.parameters.length) = some (X_na k))
  && plainName (X_y k).cls && decide (X_R (X_o k) = (X_y k).cls)
  && (match X_kd k with
    | 0 => X_wd (X_pl k).2.1 (.instanceMethod (X_y k)) && X_wd (X_pl k).2.2 (.selects (X_y k).cls (X_y k) (X_y k)) && (match X_cl[X_ci k]? with
        | some q => decide ((X_y k).cls = q.1)
        | none => false)
    | 1 => X_wd (X_pl k).2.1 (.static (X_y k))
    | _ => X_wd (X_pl k).2.1 (.instanceMethod (X_y k)) && X_init k && decide (X_rt k = none))
def X_mokL : Nat → Nat → Bool
  | 0, _ => true
  | n + 1, k => X_mok k && X_mokL n (k + 1)
theorem X_mokL_get : ∀ (n k j : Nat), X_mokL n k = true → k ≤ j → j < k + n → X_mok j = true := by
  intro n
  induction n with
  | zero => intro k j _ h1 h2; omega
  | succ n ih =>
    intro k j h h1 h2
    simp only [X_mokL, Bool.and_eq_true] at h
    rcases Nat.lt_or_eq_of_le h1 with h3 | h3
    · exact ih (k + 1) j h.2 h3 (by omega)
    · subst h3
      exact h.1
def X_cw (j o idx : Nat) (ax : Nat × Nat × Nat) : Bool :=
  decide (X_fr ax.1 + 1 ≤ X_fr j) && decide (8 + (X_nL ax.1 + 11) + X_lo ax.1 ≤ X_lo j) && decide (ax.1 < X_lawj) && decide ((X_PMl o)[ax.2.1 / 2]? = some (idx, ax.1, ax.2.1 % 2))
def X_chk (j : Nat) (row : X_Row) : Bool := decide (decode (X_b j) row.1 = .ok (row.2.1.1, X_ln row.2.1.1 row.2.1.2)) && (match row.2.1.1 with
  | .ldc idx => X_wd row.2.2.2.1 (.constant (X_R (X_o j)) idx (Int32.ofNat row.2.2.1))
  | .ldc2_w idx => X_wd row.2.2.2.1 (.constantLong (X_R (X_o j)) idx (Int64.ofNat row.2.2.1))
  | .getfield idx => X_fw (X_o j) idx row.2.2
  | .putfield idx => X_fw (X_o j) idx row.2.2 && X_fp j (X_o j) row.2.2
  | .new idx => (match X_cl[row.2.2.1]?, X_K2[row.2.2.1]?, X_df[row.2.2.1]? with
    | some q, some k, some fs => X_wd row.2.2.2.1 (.classLink (X_R (X_o j)) idx q.1) && X_wd k.1 (.instantiable q.1 q.2.2) && X_wd k.2 (.initialized q.1) && decide (fs = (List.range q.2.2).map (fun k => defaultValue (X_ty row.2.2.1 k)))
    | _, _, _ => false)
  | .newarray at_ => (match at_ with
    | .int | .long | .byte | .boolean => true
    | _ => false)
  | .anewarray idx => X_wd row.2.2.1 (.classLink (X_R (X_o j)) idx RX8)
  | .iaload | .arraylength => decide (row.2.2.1 = 0) || decide (j = X_lawj)
  | .lookupswitch _ ps => (ps.toList.zip (ps.toList.drop 1)).all (fun (a, next) => a.1 < next.1)
  | .invokevirtual idx => X_cw j (X_o j) idx row.2.2 && decide (X_kd row.2.2.1 = 0)
  | .invokespecial idx => if row.2.2.1 = 9999 then X_wd row.2.2.2.1 (.methodLink (X_R (X_o j)) idx objectInit) && decide (1 ≤ X_fr j) && decide (20 ≤ X_lo j)
      else X_cw j (X_o j) idx row.2.2 && decide (X_kd row.2.2.1 = 2)
  | .invokestatic idx => if row.2.2.1 = 9998 then X_wd row.2.2.2.1 (.methodLink (X_R (X_o j)) idx arraycopyName) && decide (1 ≤ X_fr j) && decide (8 + (nativeFrameWords "java/lang/System" "arraycopy" 5 + 11) ≤ X_lo j)
      else X_cw j (X_o j) idx row.2.2 && decide (X_kd row.2.2.1 = 1)
  | _ => true)
def X_chkL : Nat → List (List X_Row) → Bool
  | _, [] => true
  | j, r :: t => r.all (X_chk j) && X_chkL (j + 1) t
theorem X_chkL_app (a b : List (List X_Row)) : ∀ j, X_chkL j (a ++ b) = (X_chkL j a && X_chkL (j + a.length) b) := by
  induction a with
  | nil => intro j; simp [X_chkL]
  | cons r t ih =>
    intro j
    simp only [List.cons_append, X_chkL, ih (j + 1), List.length_cons, Bool.and_assoc]
    congr 2
    congr 1
    omega
theorem X_chkL_get (a : List (List X_Row)) : ∀ j, X_chkL j a = true → ∀ (k : Nat) (rows : List X_Row), a[k]? = some rows → rows.all (X_chk (j + k)) = true := by
  induction a with
  | nil => intro j _ k rows h; simp at h
  | cons r t ih =>
    intro j h k rows hk
    simp only [X_chkL, Bool.and_eq_true] at h
    cases k with
    | zero => simp at hk; subst hk; exact h.1
    | succ k =>
      have h2 := ih (j + 1) h.2 k rows (by simpa using hk)
      rwa [show j + 1 + k = j + (k + 1) by omega] at h2
end
section
set_option maxRecDepth 200000 in
set_option maxHeartbeats 4000000 in
theorem X_ck0 : X_chkL 0 X_CC0 = true := by decide +kernel
set_option maxRecDepth 200000 in
set_option maxHeartbeats 4000000 in
theorem X_ck1 : X_chkL 17 X_CC1 = true := by decide +kernel
set_option maxRecDepth 200000 in
set_option maxHeartbeats 4000000 in
theorem X_ck2 : X_chkL 30 X_CC2 = true := by decide +kernel
set_option maxRecDepth 200000 in
set_option maxHeartbeats 4000000 in
theorem X_ck3 : X_chkL 37 X_CC3 = true := by decide +kernel
end
section
set_option maxRecDepth 200000 in
set_option maxHeartbeats 4000000 in
theorem X_ck4 : X_chkL 43 X_CC4 = true := by decide +kernel
set_option maxRecDepth 200000 in
set_option maxHeartbeats 4000000 in
theorem X_ck5 : X_chkL 47 X_CC5 = true := by decide +kernel
set_option maxRecDepth 200000 in
set_option maxHeartbeats 4000000 in
theorem X_ck6 : X_chkL 57 X_CC6 = true := by decide +kernel
set_option maxRecDepth 200000 in
set_option maxHeartbeats 4000000 in
theorem X_ck7 : X_chkL 69 X_CC7 = true := by decide +kernel
end
section
set_option maxRecDepth 200000 in
set_option maxHeartbeats 4000000 in
theorem X_ck8 : X_chkL 77 X_CC8 = true := by decide +kernel
set_option maxRecDepth 200000 in
set_option maxHeartbeats 4000000 in
theorem X_ck9 : X_chkL 84 X_CC9 = true := by decide +kernel
set_option maxRecDepth 200000 in
set_option maxHeartbeats 4000000 in
theorem X_ck10 : X_chkL 96 X_CC10 = true := by decide +kernel
set_option maxRecDepth 200000 in
set_option maxHeartbeats 4000000 in
theorem X_ck11 : X_chkL 108 X_CC11 = true := by decide +kernel
end
section
set_option maxRecDepth 200000 in
set_option maxHeartbeats 4000000 in
theorem X_ck12 : X_chkL 118 X_CC12 = true := by decide +kernel
set_option maxRecDepth 200000 in
set_option maxHeartbeats 4000000 in
theorem X_ck13 : X_chkL 131 X_CC13 = true := by decide +kernel
set_option maxRecDepth 200000 in
set_option maxHeartbeats 4000000 in
theorem X_ck14 : X_chkL 141 X_CC14 = true := by decide +kernel
set_option maxRecDepth 200000 in
set_option maxHeartbeats 4000000 in
theorem X_ck15 : X_chkL 143 X_CC15 = true := by decide +kernel
end
section
set_option maxRecDepth 200000 in
set_option maxHeartbeats 4000000 in
theorem X_ck16 : X_chkL 155 X_CC16 = true := by decide +kernel
set_option maxRecDepth 200000 in
set_option maxHeartbeats 4000000 in
theorem X_ck17 : X_chkL 158 X_CC17 = true := by decide +kernel
set_option maxRecDepth 200000 in
set_option maxHeartbeats 4000000 in
theorem X_ck18 : X_chkL 161 X_CC18 = true := by decide +kernel
set_option maxRecDepth 200000 in
set_option maxHeartbeats 4000000 in
theorem X_ck19 : X_chkL 162 X_CC19 = true := by decide +kernel
end
section
set_option maxRecDepth 200000 in
set_option maxHeartbeats 4000000 in
theorem X_ck20 : X_chkL 168 X_CC20 = true := by decide +kernel
set_option maxRecDepth 200000 in
set_option maxHeartbeats 4000000 in
theorem X_ck21 : X_chkL 175 X_CC21 = true := by decide +kernel
set_option maxRecDepth 200000 in
set_option maxHeartbeats 4000000 in
theorem X_ck22 : X_chkL 178 X_CC22 = true := by decide +kernel
set_option maxRecDepth 200000 in
set_option maxHeartbeats 4000000 in
theorem X_ck23 : X_chkL 181 X_CC23 = true := by decide +kernel
end
section
set_option maxRecDepth 200000 in
set_option maxHeartbeats 4000000 in
theorem X_ck24 : X_chkL 187 X_CC24 = true := by decide +kernel
set_option maxRecDepth 200000 in
set_option maxHeartbeats 4000000 in
theorem X_ck25 : X_chkL 189 X_CC25 = true := by decide +kernel
set_option maxRecDepth 200000 in
set_option maxHeartbeats 4000000 in
theorem X_ck26 : X_chkL 193 X_CC26 = true := by decide +kernel
set_option maxRecDepth 200000 in
set_option maxHeartbeats 4000000 in
theorem X_ck27 : X_chkL 198 X_CC27 = true := by decide +kernel
end
section
set_option maxRecDepth 200000 in
set_option maxHeartbeats 4000000 in
theorem X_ck28 : X_chkL 203 X_CC28 = true := by decide +kernel
end
section
set_option maxRecDepth 100000 in
theorem X_mk0 : X_mokL 34 0 = true := by decide +kernel
set_option maxRecDepth 100000 in
theorem X_mk34 : X_mokL 34 34 = true := by decide +kernel
set_option maxRecDepth 100000 in
theorem X_mk68 : X_mokL 34 68 = true := by decide +kernel
set_option maxRecDepth 100000 in
theorem X_mk102 : X_mokL 34 102 = true := by decide +kernel
set_option maxRecDepth 100000 in
theorem X_mk136 : X_mokL 34 136 = true := by decide +kernel
set_option maxRecDepth 100000 in
theorem X_mk170 : X_mokL 33 170 = true := by decide +kernel
theorem X_mokA : ∀ k, k < X_lawj → X_mok k = true := by
  intro k h
  have h : k < 203 := h
  rcases Nat.lt_or_ge k 34 with h1 | h1
  · exact X_mokL_get _ _ k X_mk0 (by omega) (by omega)
  rcases Nat.lt_or_ge k 68 with h1 | h1
  · exact X_mokL_get _ _ k X_mk34 (by omega) (by omega)
  rcases Nat.lt_or_ge k 102 with h1 | h1
  · exact X_mokL_get _ _ k X_mk68 (by omega) (by omega)
  rcases Nat.lt_or_ge k 136 with h1 | h1
  · exact X_mokL_get _ _ k X_mk102 (by omega) (by omega)
  rcases Nat.lt_or_ge k 170 with h1 | h1
  · exact X_mokL_get _ _ k X_mk136 (by omega) (by omega)
  exact X_mokL_get _ _ k X_mk170 (by omega) (by omega)
end
section
set_option maxRecDepth 100000 in
theorem X_PF0_w : X_PF0.map (X_pfw 0) = [136, 140, 144, 150, 168, 171, 174, 178, 182, 225, 228, 232, 237, 238, 239, 240, 241].filterMap (fun (i : Nat) => lw_tbl[i]?) := by decide +kernel
theorem X_PF0_g : X_PF0.all (fun e => !decide (e.2.2.2 = 0) || goodWord (X_pfw 0 e)) = true := by decide +kernel
theorem X_PF0_n : X_PF0.all (fun e => decide (e.2.2.2 = 0) || X_isNest (X_pfw 0 e)) = true := by decide +kernel
set_option maxRecDepth 100000 in
theorem X_PM0_w : X_PM0.map (X_pmw 0) = [130, 220, 626, 654, 661, 680, 750, 751, 755, 759, 763, 767, 1026, 1029, 1030, 1033].filterMap (fun (i : Nat) => lw_tbl[i]?) := by decide +kernel
theorem X_PM0_g : X_PM0.all (fun e => !decide (e.2.2 = 0) || goodWord (X_pmw 0 e)) = true := by decide +kernel
theorem X_PM0_n : X_PM0.all (fun e => decide (e.2.2 = 0) || X_isNest (X_pmw 0 e)) = true := by decide +kernel
set_option maxRecDepth 100000 in
theorem X_PF1_w : X_PF1.map (X_pfw 1) = [149, 155, 167, 172, 177, 181, 231, 235, 246, 322, 324, 378, 380, 381, 382, 383, 384, 385, 386].filterMap (fun (i : Nat) => lw_tbl[i]?) := by decide +kernel
theorem X_PF1_g : X_PF1.all (fun e => !decide (e.2.2.2 = 0) || goodWord (X_pfw 1 e)) = true := by decide +kernel
theorem X_PF1_n : X_PF1.all (fun e => decide (e.2.2.2 = 0) || X_isNest (X_pfw 1 e)) = true := by decide +kernel
set_option maxRecDepth 100000 in
theorem X_PM1_w : X_PM1.map (X_pmw 1) = [837, 841, 844, 848, 849, 853, 856, 860, 865, 868, 872, 881, 885, 891, 895, 896, 897, 901, 905].filterMap (fun (i : Nat) => lw_tbl[i]?) := by decide +kernel
theorem X_PM1_g : X_PM1.all (fun e => !decide (e.2.2 = 0) || goodWord (X_pmw 1 e)) = true := by decide +kernel
theorem X_PM1_n : X_PM1.all (fun e => decide (e.2.2 = 0) || X_isNest (X_pmw 1 e)) = true := by decide +kernel
set_option maxRecDepth 100000 in
theorem X_PF2_w : X_PF2.map (X_pfw 2) = [146, 153, 170, 176, 180, 234, 243, 320, 379, 410, 411, 412, 413, 414, 415, 416, 417, 418, 419, 420, 421, 422].filterMap (fun (i : Nat) => lw_tbl[i]?) := by decide +kernel
theorem X_PF2_g : X_PF2.all (fun e => !decide (e.2.2.2 = 0) || goodWord (X_pfw 2 e)) = true := by decide +kernel
theorem X_PF2_n : X_PF2.all (fun e => decide (e.2.2.2 = 0) || X_isNest (X_pfw 2 e)) = true := by decide +kernel
set_option maxRecDepth 100000 in
theorem X_PM2_w : X_PM2.map (X_pmw 2) = [925, 926, 930, 934, 938, 942, 947, 948, 952, 956, 960, 964, 965, 966, 967, 968, 972].filterMap (fun (i : Nat) => lw_tbl[i]?) := by decide +kernel
theorem X_PM2_g : X_PM2.all (fun e => !decide (e.2.2 = 0) || goodWord (X_pmw 2 e)) = true := by decide +kernel
theorem X_PM2_n : X_PM2.all (fun e => decide (e.2.2 = 0) || X_isNest (X_pmw 2 e)) = true := by decide +kernel
set_option maxRecDepth 100000 in
theorem X_PF3_w : X_PF3.map (X_pfw 3) = [114, 276, 277, 278, 279, 280, 281, 282].filterMap (fun (i : Nat) => lw_tbl[i]?) := by decide +kernel
theorem X_PF3_g : X_PF3.all (fun e => !decide (e.2.2.2 = 0) || goodWord (X_pfw 3 e)) = true := by decide +kernel
theorem X_PF3_n : X_PF3.all (fun e => decide (e.2.2.2 = 0) || X_isNest (X_pfw 3 e)) = true := by decide +kernel
set_option maxRecDepth 100000 in
theorem X_PM3_w : X_PM3.map (X_pmw 3) = [533, 537, 540, 544, 547, 551, 554, 557, 567, 573, 577, 580, 584, 596, 597].filterMap (fun (i : Nat) => lw_tbl[i]?) := by decide +kernel
theorem X_PM3_g : X_PM3.all (fun e => !decide (e.2.2 = 0) || goodWord (X_pmw 3 e)) = true := by decide +kernel
theorem X_PM3_n : X_PM3.all (fun e => decide (e.2.2 = 0) || X_isNest (X_pmw 3 e)) = true := by decide +kernel
set_option maxRecDepth 100000 in
theorem X_PF4_w : X_PF4.map (X_pfw 4) = [139, 143, 148, 154, 159, 226, 230, 236, 245, 298, 299, 300, 302].filterMap (fun (i : Nat) => lw_tbl[i]?) := by decide +kernel
theorem X_PF4_g : X_PF4.all (fun e => !decide (e.2.2.2 = 0) || goodWord (X_pfw 4 e)) = true := by decide +kernel
theorem X_PF4_n : X_PF4.all (fun e => decide (e.2.2.2 = 0) || X_isNest (X_pfw 4 e)) = true := by decide +kernel
set_option maxRecDepth 100000 in
theorem X_PM4_w : X_PM4.map (X_pmw 4) = [272, 528, 529, 587, 592, 601, 605, 609, 613, 617, 621, 622, 629, 633, 638, 642, 646, 650, 657, 663, 667, 672, 676, 685, 689, 693, 699, 703, 711, 715, 719, 727, 731, 735, 739, 742, 746].filterMap (fun (i : Nat) => lw_tbl[i]?) := by decide +kernel
theorem X_PM4_g : X_PM4.all (fun e => !decide (e.2.2 = 0) || goodWord (X_pmw 4 e)) = true := by decide +kernel
theorem X_PM4_n : X_PM4.all (fun e => decide (e.2.2 = 0) || X_isNest (X_pmw 4 e)) = true := by decide +kernel
set_option maxRecDepth 100000 in
theorem X_PF5_w : X_PF5.map (X_pfw 5) = [339, 342, 345, 348, 350, 353, 355].filterMap (fun (i : Nat) => lw_tbl[i]?) := by decide +kernel
theorem X_PF5_g : X_PF5.all (fun e => !decide (e.2.2.2 = 0) || goodWord (X_pfw 5 e)) = true := by decide +kernel
theorem X_PF5_n : X_PF5.all (fun e => decide (e.2.2.2 = 0) || X_isNest (X_pfw 5 e)) = true := by decide +kernel
set_option maxRecDepth 100000 in
theorem X_PM5_w : X_PM5.map (X_pmw 5) = [].filterMap (fun (i : Nat) => lw_tbl[i]?) := by decide +kernel
theorem X_PM5_g : X_PM5.all (fun e => !decide (e.2.2 = 0) || goodWord (X_pmw 5 e)) = true := by decide +kernel
theorem X_PM5_n : X_PM5.all (fun e => decide (e.2.2 = 0) || X_isNest (X_pmw 5 e)) = true := by decide +kernel
set_option maxRecDepth 100000 in
theorem X_PF6_w : X_PF6.map (X_pfw 6) = [113, 319, 323, 325].filterMap (fun (i : Nat) => lw_tbl[i]?) := by decide +kernel
theorem X_PF6_g : X_PF6.all (fun e => !decide (e.2.2.2 = 0) || goodWord (X_pfw 6 e)) = true := by decide +kernel
theorem X_PF6_n : X_PF6.all (fun e => decide (e.2.2.2 = 0) || X_isNest (X_pfw 6 e)) = true := by decide +kernel
set_option maxRecDepth 100000 in
theorem X_PM6_w : X_PM6.map (X_pmw 6) = [824, 825, 876].filterMap (fun (i : Nat) => lw_tbl[i]?) := by decide +kernel
theorem X_PM6_g : X_PM6.all (fun e => !decide (e.2.2 = 0) || goodWord (X_pmw 6 e)) = true := by decide +kernel
theorem X_PM6_n : X_PM6.all (fun e => decide (e.2.2 = 0) || X_isNest (X_pmw 6 e)) = true := by decide +kernel
set_option maxRecDepth 100000 in
theorem X_PF7_w : X_PF7.map (X_pfw 7) = [110, 111].filterMap (fun (i : Nat) => lw_tbl[i]?) := by decide +kernel
theorem X_PF7_g : X_PF7.all (fun e => !decide (e.2.2.2 = 0) || goodWord (X_pfw 7 e)) = true := by decide +kernel
theorem X_PF7_n : X_PF7.all (fun e => decide (e.2.2.2 = 0) || X_isNest (X_pfw 7 e)) = true := by decide +kernel
set_option maxRecDepth 100000 in
theorem X_PM7_w : X_PM7.map (X_pmw 7) = [].filterMap (fun (i : Nat) => lw_tbl[i]?) := by decide +kernel
theorem X_PM7_g : X_PM7.all (fun e => !decide (e.2.2 = 0) || goodWord (X_pmw 7 e)) = true := by decide +kernel
theorem X_PM7_n : X_PM7.all (fun e => decide (e.2.2 = 0) || X_isNest (X_pmw 7 e)) = true := by decide +kernel
set_option maxRecDepth 100000 in
theorem X_PF8_w : X_PF8.map (X_pfw 8) = [134, 137, 141, 145, 151, 156, 160, 163, 166, 169, 173, 175, 179, 183, 185].filterMap (fun (i : Nat) => lw_tbl[i]?) := by decide +kernel
theorem X_PF8_g : X_PF8.all (fun e => !decide (e.2.2.2 = 0) || goodWord (X_pfw 8 e)) = true := by decide +kernel
theorem X_PF8_n : X_PF8.all (fun e => decide (e.2.2.2 = 0) || X_isNest (X_pfw 8 e)) = true := by decide +kernel
set_option maxRecDepth 100000 in
theorem X_PM8_w : X_PM8.map (X_pmw 8) = [707, 723].filterMap (fun (i : Nat) => lw_tbl[i]?) := by decide +kernel
theorem X_PM8_g : X_PM8.all (fun e => !decide (e.2.2 = 0) || goodWord (X_pmw 8 e)) = true := by decide +kernel
theorem X_PM8_n : X_PM8.all (fun e => decide (e.2.2 = 0) || X_isNest (X_pmw 8 e)) = true := by decide +kernel
set_option maxRecDepth 100000 in
theorem X_PF9_w : X_PF9.map (X_pfw 9) = [157, 161, 164, 184, 186, 242, 340, 343, 346, 351, 456, 457, 458, 460, 462, 463, 464].filterMap (fun (i : Nat) => lw_tbl[i]?) := by decide +kernel
theorem X_PF9_g : X_PF9.all (fun e => !decide (e.2.2.2 = 0) || goodWord (X_pfw 9 e)) = true := by decide +kernel
theorem X_PF9_n : X_PF9.all (fun e => decide (e.2.2.2 = 0) || X_isNest (X_pfw 9 e)) = true := by decide +kernel
set_option maxRecDepth 100000 in
theorem X_PM9_w : X_PM9.map (X_pmw 9) = [989, 990, 994, 995, 999, 1003, 1007, 1011].filterMap (fun (i : Nat) => lw_tbl[i]?) := by decide +kernel
theorem X_PM9_g : X_PM9.all (fun e => !decide (e.2.2 = 0) || goodWord (X_pmw 9 e)) = true := by decide +kernel
theorem X_PM9_n : X_PM9.all (fun e => decide (e.2.2 = 0) || X_isNest (X_pmw 9 e)) = true := by decide +kernel
set_option maxRecDepth 100000 in
theorem X_PF10_w : X_PF10.map (X_pfw 10) = [112, 135, 138, 142, 147, 152, 158, 162, 165, 227, 229, 233, 244, 301, 303, 321, 341, 344, 347, 349, 352, 354, 459, 461, 480, 481, 482, 483, 484, 485, 486, 487, 488].filterMap (fun (i : Nat) => lw_tbl[i]?) := by decide +kernel
theorem X_PF10_g : X_PF10.all (fun e => !decide (e.2.2.2 = 0) || goodWord (X_pfw 10 e)) = true := by decide +kernel
theorem X_PF10_n : X_PF10.all (fun e => decide (e.2.2.2 = 0) || X_isNest (X_pfw 10 e)) = true := by decide +kernel
set_option maxRecDepth 100000 in
theorem X_PM10_w : X_PM10.map (X_pmw 10) = [106, 123, 266, 315, 335, 373, 406, 452, 512, 524, 768, 772, 776, 780, 796, 800, 805, 809, 814, 815, 820, 833, 909, 921, 985, 1022].filterMap (fun (i : Nat) => lw_tbl[i]?) := by decide +kernel
theorem X_PM10_g : X_PM10.all (fun e => !decide (e.2.2 = 0) || goodWord (X_pmw 10 e)) = true := by decide +kernel
theorem X_PM10_n : X_PM10.all (fun e => decide (e.2.2 = 0) || X_isNest (X_pmw 10 e)) = true := by decide +kernel
set_option maxRecDepth 100000 in
theorem X_PF11_w : X_PF11.map (X_pfw 11) = [1045, 1046, 1047, 1048, 1049, 1050, 1051, 1052, 1053, 1054, 1055, 1056, 1057, 1058, 1059, 1060, 1061, 1062, 1063, 1064, 1065, 1066, 1067, 1068, 1069, 1070, 1071, 1072, 1073, 1074, 1075, 1076, 1077, 1078, 1079, 1080, 1081, 1082, 1083, 1084, 1085, 1086, 1087, 1088, 1089, 1090, 1091, 1092, 1093, 1094, 1095, 1096, 1097, 1098, 1099, 1100, 1101, 1102, 1103, 1104, 1105, 1106, 1107, 1108, 1109, 1110, 1111, 1112, 1113, 1114, 1115, 1116].filterMap (fun (i : Nat) => lw_tbl[i]?) := by decide +kernel
theorem X_PF11_g : X_PF11.all (fun e => !decide (e.2.2.2 = 0) || goodWord (X_pfw 11 e)) = true := by decide +kernel
theorem X_PF11_n : X_PF11.all (fun e => decide (e.2.2.2 = 0) || X_isNest (X_pfw 11 e)) = true := by decide +kernel
set_option maxRecDepth 100000 in
theorem X_PM11_w : X_PM11.map (X_pmw 11) = [1267, 1271, 1275, 1278, 1281, 1292, 1296, 1299, 1303, 1307, 1311, 1315, 1319, 1323, 1327, 1331, 1335, 1339, 1343, 1347, 1351, 1355, 1359, 1363, 1367, 1383, 1395, 1403, 1407, 1410, 1414, 1418, 1424, 1428, 1432, 1436, 1440, 1444, 1452, 1465, 1469, 1473, 1477, 1493, 1497, 1501, 1505, 1509, 1521].filterMap (fun (i : Nat) => lw_tbl[i]?) := by decide +kernel
theorem X_PM11_g : X_PM11.all (fun e => !decide (e.2.2 = 0) || goodWord (X_pmw 11 e)) = true := by decide +kernel
theorem X_PM11_n : X_PM11.all (fun e => decide (e.2.2 = 0) || X_isNest (X_pmw 11 e)) = true := by decide +kernel
set_option maxRecDepth 100000 in
theorem X_PF12_w : X_PF12.map (X_pfw 12) = [].filterMap (fun (i : Nat) => lw_tbl[i]?) := by decide +kernel
theorem X_PF12_g : X_PF12.all (fun e => !decide (e.2.2.2 = 0) || goodWord (X_pfw 12 e)) = true := by decide +kernel
theorem X_PF12_n : X_PF12.all (fun e => decide (e.2.2.2 = 0) || X_isNest (X_pfw 12 e)) = true := by decide +kernel
set_option maxRecDepth 100000 in
theorem X_PM12_w : X_PM12.map (X_pmw 12) = [98, 508, 516, 520, 784, 788, 792, 801, 810, 816, 829, 913, 917, 973, 977, 981, 1014, 1018, 1039, 1263, 1371, 1375, 1379, 1387, 1391, 1399, 1448, 1457, 1461, 1481, 1485, 1489, 1513, 1517, 1525, 1529].filterMap (fun (i : Nat) => lw_tbl[i]?) := by decide +kernel
theorem X_PM12_g : X_PM12.all (fun e => !decide (e.2.2 = 0) || goodWord (X_pmw 12 e)) = true := by decide +kernel
theorem X_PM12_n : X_PM12.all (fun e => decide (e.2.2 = 0) || X_isNest (X_pmw 12 e)) = true := by decide +kernel
end
section
theorem X_ckA : X_chkL 0 X_C = true := by
  unfold X_C
  rw [X_chkL_app, X_ck0, Bool.true_and]
  show X_chkL 17 _ = true
  rw [X_chkL_app, X_ck1, Bool.true_and]
  show X_chkL 30 _ = true
  rw [X_chkL_app, X_ck2, Bool.true_and]
  show X_chkL 37 _ = true
  rw [X_chkL_app, X_ck3, Bool.true_and]
  show X_chkL 43 _ = true
  rw [X_chkL_app, X_ck4, Bool.true_and]
  show X_chkL 47 _ = true
  rw [X_chkL_app, X_ck5, Bool.true_and]
  show X_chkL 57 _ = true
  rw [X_chkL_app, X_ck6, Bool.true_and]
  show X_chkL 69 _ = true
  rw [X_chkL_app, X_ck7, Bool.true_and]
  show X_chkL 77 _ = true
  rw [X_chkL_app, X_ck8, Bool.true_and]
  show X_chkL 84 _ = true
  rw [X_chkL_app, X_ck9, Bool.true_and]
  show X_chkL 96 _ = true
  rw [X_chkL_app, X_ck10, Bool.true_and]
  show X_chkL 108 _ = true
  rw [X_chkL_app, X_ck11, Bool.true_and]
  show X_chkL 118 _ = true
  rw [X_chkL_app, X_ck12, Bool.true_and]
  show X_chkL 131 _ = true
  rw [X_chkL_app, X_ck13, Bool.true_and]
  show X_chkL 141 _ = true
  rw [X_chkL_app, X_ck14, Bool.true_and]
  show X_chkL 143 _ = true
  rw [X_chkL_app, X_ck15, Bool.true_and]
  show X_chkL 155 _ = true
  rw [X_chkL_app, X_ck16, Bool.true_and]
  show X_chkL 158 _ = true
  rw [X_chkL_app, X_ck17, Bool.true_and]
  show X_chkL 161 _ = true
  rw [X_chkL_app, X_ck18, Bool.true_and]
  show X_chkL 162 _ = true
  rw [X_chkL_app, X_ck19, Bool.true_and]
  show X_chkL 168 _ = true
  rw [X_chkL_app, X_ck20, Bool.true_and]
  show X_chkL 175 _ = true
  rw [X_chkL_app, X_ck21, Bool.true_and]
  show X_chkL 178 _ = true
  rw [X_chkL_app, X_ck22, Bool.true_and]
  show X_chkL 181 _ = true
  rw [X_chkL_app, X_ck23, Bool.true_and]
  show X_chkL 187 _ = true
  rw [X_chkL_app, X_ck24, Bool.true_and]
  show X_chkL 189 _ = true
  rw [X_chkL_app, X_ck25, Bool.true_and]
  show X_chkL 193 _ = true
  rw [X_chkL_app, X_ck26, Bool.true_and]
  show X_chkL 198 _ = true
  rw [X_chkL_app, X_ck27, Bool.true_and]
  show X_chkL 203 _ = true
  exact X_ck28
theorem X_row_chk {j pc : Nat} {row : X_Row} (h : X_row j pc = some row) : row.1 = pc ∧ X_chk j row = true := by
  unfold X_row at h
  split at h
  · rename_i rows hr
    have h1 := X_chkL_get X_C 0 X_ckA j rows hr
    rw [Nat.zero_add] at h1
    exact ⟨by simpa using List.find?_some h, List.all_eq_true.mp h1 row (List.mem_of_find?_eq_some h)⟩
  · cases h
def X_pfok (o : Nat) (L : List (Nat × Nat × Nat × Nat)) : Prop := ∀ e ∈ L, X_pfw o e ∈ lw_tbl ∧ (e.2.2.2 = 0 → goodWord (X_pfw o e) = true) ∧ (e.2.2.2 ≠ 0 → X_isNest (X_pfw o e) = true)
theorem X_pfok_of {o : Nat} {L : List (Nat × Nat × Nat × Nat)} {ps : List Nat} (h : L.map (X_pfw o) = ps.filterMap (fun i => lw_tbl[i]?)) (hg : L.all (fun e => !decide (e.2.2.2 = 0) || goodWord (X_pfw o e)) = true) (hn : L.all (fun e => decide (e.2.2.2 = 0) || X_isNest (X_pfw o e)) = true) : X_pfok o L := by
  intro e he
  have h1 : X_pfw o e ∈ L.map (X_pfw o) := List.mem_map.mpr ⟨e, he, rfl⟩
  rw [h] at h1
  obtain ⟨i, -, hi⟩ := List.mem_filterMap.mp h1
  have h2 := List.all_eq_true.mp hg e he
  have h3 := List.all_eq_true.mp hn e he
  refine ⟨List.mem_of_getElem? hi, fun z => ?_, fun z => ?_⟩
  · simpa [z] using h2
  · simpa [z] using h3
def X_pmok (o : Nat) (L : List (Nat × Nat × Nat)) : Prop := ∀ e ∈ L, X_pmw o e ∈ lw_tbl ∧ (e.2.2 = 0 → goodWord (X_pmw o e) = true) ∧ (e.2.2 ≠ 0 → X_isNest (X_pmw o e) = true)
theorem X_pmok_of {o : Nat} {L : List (Nat × Nat × Nat)} {ps : List Nat} (h : L.map (X_pmw o) = ps.filterMap (fun i => lw_tbl[i]?)) (hg : L.all (fun e => !decide (e.2.2 = 0) || goodWord (X_pmw o e)) = true) (hn : L.all (fun e => decide (e.2.2 = 0) || X_isNest (X_pmw o e)) = true) : X_pmok o L := by
  intro e he
  have h1 : X_pmw o e ∈ L.map (X_pmw o) := List.mem_map.mpr ⟨e, he, rfl⟩
  rw [h] at h1
  obtain ⟨i, -, hi⟩ := List.mem_filterMap.mp h1
  have h2 := List.all_eq_true.mp hg e he
  have h3 := List.all_eq_true.mp hn e he
  refine ⟨List.mem_of_getElem? hi, fun z => ?_, fun z => ?_⟩
  · simpa [z] using h2
  · simpa [z] using h3
theorem X_PF_ok : ∀ o, X_pfok o (X_PFl o) := by
  intro o
  match o with
  | 0 => exact X_pfok_of X_PF0_w X_PF0_g X_PF0_n
  | 1 => exact X_pfok_of X_PF1_w X_PF1_g X_PF1_n
  | 2 => exact X_pfok_of X_PF2_w X_PF2_g X_PF2_n
  | 3 => exact X_pfok_of X_PF3_w X_PF3_g X_PF3_n
  | 4 => exact X_pfok_of X_PF4_w X_PF4_g X_PF4_n
  | 5 => exact X_pfok_of X_PF5_w X_PF5_g X_PF5_n
  | 6 => exact X_pfok_of X_PF6_w X_PF6_g X_PF6_n
  | 7 => exact X_pfok_of X_PF7_w X_PF7_g X_PF7_n
  | 8 => exact X_pfok_of X_PF8_w X_PF8_g X_PF8_n
  | 9 => exact X_pfok_of X_PF9_w X_PF9_g X_PF9_n
  | 10 => exact X_pfok_of X_PF10_w X_PF10_g X_PF10_n
  | 11 => exact X_pfok_of X_PF11_w X_PF11_g X_PF11_n
  | 12 => exact X_pfok_of X_PF12_w X_PF12_g X_PF12_n
  | o + 13 => intro e he; simp [X_PFl, X_PF] at he
theorem X_PM_ok : ∀ o, X_pmok o (X_PMl o) := by
  intro o
  match o with
  | 0 => exact X_pmok_of X_PM0_w X_PM0_g X_PM0_n
  | 1 => exact X_pmok_of X_PM1_w X_PM1_g X_PM1_n
  | 2 => exact X_pmok_of X_PM2_w X_PM2_g X_PM2_n
  | 3 => exact X_pmok_of X_PM3_w X_PM3_g X_PM3_n
  | 4 => exact X_pmok_of X_PM4_w X_PM4_g X_PM4_n
  | 5 => exact X_pmok_of X_PM5_w X_PM5_g X_PM5_n
  | 6 => exact X_pmok_of X_PM6_w X_PM6_g X_PM6_n
  | 7 => exact X_pmok_of X_PM7_w X_PM7_g X_PM7_n
  | 8 => exact X_pmok_of X_PM8_w X_PM8_g X_PM8_n
  | 9 => exact X_pmok_of X_PM9_w X_PM9_g X_PM9_n
  | 10 => exact X_pmok_of X_PM10_w X_PM10_g X_PM10_n
  | 11 => exact X_pmok_of X_PM11_w X_PM11_g X_PM11_n
  | 12 => exact X_pmok_of X_PM12_w X_PM12_g X_PM12_n
  | o + 13 => intro e he; simp [X_PMl, X_PM] at he
theorem X_w_oi : X_wd X_oi (.instanceMethod objectInit) = true := by decide +kernel
theorem X_w_oc : X_wd X_oc (.code objectInit ⟨#[0xb1]⟩ 1 none) = true := by decide +kernel
theorem X_w_an : X_wd X_an (.native arraycopyName) = true := by decide +kernel
theorem X_w_as : X_wd X_as (.static arraycopyName) = true := by decide +kernel
theorem X_w_ai : X_wd X_ai (.initialized "java/lang/System") = true := by decide +kernel
theorem X_w_ap : X_wd (X_ap.getD 0 0) (.arrayClass .int) = true ∧ X_wd (X_ap.getD 1 0) (.arrayClass .long) = true ∧ X_wd (X_ap.getD 2 0) (.arrayClass .byte) = true ∧ X_wd (X_ap.getD 3 0) (.arrayClass .boolean) = true := by decide +kernel
theorem X_w_ao : lw_tbl[X_ao]? = some (.arrayOver (.object RX8)) := by decide +kernel
end
section
/-! THE MACHINE OF THIS PROOF: a small pure machine over a heap that is a function, run by rows that are decoded ahead; cell 0 is the script. -/
abbrev X_Cell : Type := (FieldType × vp_A) ⊕ (Nat × List Value)
abbrev X_Hp : Type := Nat → X_Cell
/-- the heap, how many cells, how many slots they have -/
abbrev X_S : Type := X_Hp × Nat × Nat
abbrev X_L : Type := List (Nat × Value)
abbrev X_F : Type := Nat × X_L × List Value × X_S
abbrev X_O : Type := X_F ⊕ ((Nat × List Value × X_F) ⊕ (Option Value × X_S))
abbrev X_no : X_Cell := .inr (99, [])
def X_upd (h : X_Hp) (q : Nat) (c : X_Cell) : X_Hp := fun k => if k = q then c else h k
def X_ld (ls : X_L) (i : Nat) : Option Value := match ls with
  | [] => none
  | q :: r => if q.1 = i then some q.2 else X_ld r i
def X_s1 (ls : X_L) (i : Nat) (v : Value) : X_L := (i, v) :: ls.filter (fun q => !(q.1 == i) && !(q.1 + 1 == i && q.2.category == 2))
def X_s2 (ls : X_L) (i : Nat) (v : Value) : X_L := (i, v) :: ls.filter (fun q => !(q.1 == i) && (!(q.1 == i + 1) && !(q.1 + 1 == i && q.2.category == 2)))
def X_tg (pc : Nat) (off : Int) : Option Nat := match (pc : Int) + off with
  | .ofNat t => some t
  | .negSucc _ => none
abbrev X_P : Type := Nat × X_L × List Value
def X_i2 (g : Int32 → Int32 → Option Value) (pc : Nat) (ls : X_L) (st : List Value) : Option X_P := match st with
  | .int y :: .int x :: r => (match g x y with
    | some v => some (pc, ls, v :: r)
    | none => none)
  | _ => none
def X_l2 (g : Int64 → Int64 → Option Value) (pc : Nat) (ls : X_L) (st : List Value) : Option X_P := match st with
  | .long y :: .long x :: r => (match g x y with
    | some v => some (pc, ls, v :: r)
    | none => none)
  | _ => none
def X_li (g : Int64 → Int32 → Value) (pc : Nat) (ls : X_L) (st : List Value) : Option X_P := match st with
  | .int y :: .long x :: r => some (pc, ls, g x y :: r)
  | _ => none
def X_i1 (g : Int32 → Value) (pc : Nat) (ls : X_L) (st : List Value) : Option X_P := match st with
  | .int x :: r => some (pc, ls, g x :: r)
  | _ => none
def X_l1 (g : Int64 → Value) (pc : Nat) (ls : X_L) (st : List Value) : Option X_P := match st with
  | .long x :: r => some (pc, ls, g x :: r)
  | _ => none
def X_li_ (n pc : Nat) (ls : X_L) (st : List Value) : Option X_P := match X_ld ls n with
  | some (.int x) => some (pc, ls, .int x :: st)
  | _ => none
def X_ll_ (n pc : Nat) (ls : X_L) (st : List Value) : Option X_P := match X_ld ls n with
  | some (.long x) => some (pc, ls, .long x :: st)
  | _ => none
def X_la_ (n pc : Nat) (ls : X_L) (st : List Value) : Option X_P := match X_ld ls n with
  | some (.ref x) => some (pc, ls, .ref x :: st)
  | _ => none
def X_si_ (nL n pc : Nat) (ls : X_L) (st : List Value) : Option X_P := match st with
  | .int x :: r => if n < nL then some (pc, X_s1 ls n (.int x), r) else none
  | _ => none
def X_sa_ (nL n pc : Nat) (ls : X_L) (st : List Value) : Option X_P := match st with
  | .ref x :: r => if n < nL then some (pc, X_s1 ls n (.ref x), r) else none
  | _ => none
def X_sl_ (nL n pc : Nat) (ls : X_L) (st : List Value) : Option X_P := match st with
  | .long x :: r => if n + 1 < nL then some (pc, X_s2 ls n (.long x), r) else none
  | _ => none
def X_cd (cd : Jvm.ClassFile.Cond) (x y : Int32) : Bool := match cd with
  | .eq => decide (x = y)
  | .ne => decide (¬ x = y)
  | .lt => decide (x < y)
  | .ge => decide (y ≤ x)
  | .gt => decide (y < x)
  | .le => decide (x ≤ y)
def X_br (b : Bool) (t : Option Nat) (pc : Nat) (ls : X_L) (r : List Value) : Option X_P := match t with
  | some t => if b = true then some (t, ls, r) else some (pc, ls, r)
  | none => none
/-- the instructions that leave the heap alone -/
def X_pstep (nL : Nat) (row : Nat × (Jvm.ClassFile.Instr × Nat) × (Nat × Nat × Nat)) (ls : X_L) (st : List Value) : Option X_P := match row.2.1.1 with
  | .iconst n => some (row.1 + 1, ls, .int (Int32.ofInt n) :: st)
  | .bipush n => some (row.1 + 2, ls, .int (Int8.ofInt n).toInt32 :: st)
  | .sipush n => some (row.1 + 3, ls, .int (Int16.ofInt n).toInt32 :: st)
  | .lconst n => some (row.1 + 1, ls, .long (Int64.ofNat (n : Nat)) :: st)
  | .ldc _ => some (row.1 + 2, ls, .int (Int32.ofNat row.2.2.1) :: st)
  | .ldc2_w _ => some (row.1 + 3, ls, .long (Int64.ofNat row.2.2.1) :: st)
  | .iload n => X_li_ n (row.1 + 2) ls st
  | .iload_n n => X_li_ n (row.1 + 1) ls st
  | .lload n => X_ll_ n (row.1 + 2) ls st
  | .lload_n n => X_ll_ n (row.1 + 1) ls st
  | .aload n => X_la_ n (row.1 + 2) ls st
  | .aload_n n => X_la_ n (row.1 + 1) ls st
  | .istore n => X_si_ nL n (row.1 + 2) ls st
  | .istore_n n => X_si_ nL n (row.1 + 1) ls st
  | .lstore n => X_sl_ nL n (row.1 + 2) ls st
  | .lstore_n n => X_sl_ nL n (row.1 + 1) ls st
  | .astore n => X_sa_ nL n (row.1 + 2) ls st
  | .astore_n n => X_sa_ nL n (row.1 + 1) ls st
  | .iinc n k => (match X_ld ls n with
    | some (.int x) => if n < nL then some (row.1 + 3, X_s1 ls n (.int (x + Int32.ofInt k)), st) else none
    | _ => none)
  | .iadd => X_i2 (fun x y => some (.int (x + y))) (row.1 + 1) ls st
  | .isub => X_i2 (fun x y => some (.int (x - y))) (row.1 + 1) ls st
  | .imul => X_i2 (fun x y => some (.int (x * y))) (row.1 + 1) ls st
  | .iand => X_i2 (fun x y => some (.int (x &&& y))) (row.1 + 1) ls st
  | .ior => X_i2 (fun x y => some (.int (x ||| y))) (row.1 + 1) ls st
  | .idiv => X_i2 (fun x y => if y = 0 then none else some (.int (x / y))) (row.1 + 1) ls st
  | .irem => X_i2 (fun x y => if y = 0 then none else some (.int (x - x / y * y))) (row.1 + 1) ls st
  | .ishl => X_i2 (fun x y => some (.int (x <<< (y &&& 31)))) (row.1 + 1) ls st
  | .ishr => X_i2 (fun x y => some (.int (x >>> (y &&& 31)))) (row.1 + 1) ls st
  | .ineg => X_i1 (fun x => .int (-x)) (row.1 + 1) ls st
  | .i2l => X_i1 (fun x => .long x.toInt64) (row.1 + 1) ls st
  | .i2b => X_i1 (fun x => .int x.toInt8.toInt32) (row.1 + 1) ls st
  | .l2i => X_l1 (fun x => .int x.toInt32) (row.1 + 1) ls st
  | .ladd => X_l2 (fun x y => some (.long (x + y))) (row.1 + 1) ls st
  | .lsub => X_l2 (fun x y => some (.long (x - y))) (row.1 + 1) ls st
  | .lmul => X_l2 (fun x y => some (.long (x * y))) (row.1 + 1) ls st
  | .land => X_l2 (fun x y => some (.long (x &&& y))) (row.1 + 1) ls st
  | .lor => X_l2 (fun x y => some (.long (x ||| y))) (row.1 + 1) ls st
  | .ldiv => X_l2 (fun x y => if y = 0 then none else some (.long (x / y))) (row.1 + 1) ls st
  | .lrem => X_l2 (fun x y => if y = 0 then none else some (.long (x - x / y * y))) (row.1 + 1) ls st
  | .lcmp => X_l2 (fun x y => some (.int (lg_cmp x y))) (row.1 + 1) ls st
  | .lshl => X_li (fun x y => .long (x <<< (y.toInt64 &&& 63))) (row.1 + 1) ls st
  | .lshr => X_li (fun x y => .long (x >>> (y.toInt64 &&& 63))) (row.1 + 1) ls st
  | .dup => (match st with
    | v :: r => if v.category = 1 then some (row.1 + 1, ls, v :: v :: r) else none
    | _ => none)
  | .dup2 => (match st with
    | v :: w :: r => if v.category = 1 ∧ w.category = 1 then some (row.1 + 1, ls, v :: w :: v :: w :: r) else none
    | _ => none)
  | .pop => (match st with
    | v :: r => if v.category = 1 then some (row.1 + 1, ls, r) else none
    | _ => none)
  | .ifCond cd off => (match st with
    | .int x :: r => X_br (X_cd cd x 0) (X_tg row.1 off) (row.1 + 3) ls r
    | _ => none)
  | .if_icmp cd off => (match st with
    | .int y :: .int x :: r => X_br (X_cd cd x y) (X_tg row.1 off) (row.1 + 3) ls r
    | _ => none)
  | .goto off => (match X_tg row.1 off with
    | some t => some (t, ls, st)
    | none => none)
  | .tableswitch d lo hi offs => (match st with
    | .int x :: r => if x.toInt < lo ∨ hi < x.toInt then (match X_tg row.1 d with
        | some t => some (t, ls, r)
        | none => none)
      else (match offs[(x.toInt - lo).toNat]? with
        | some off => (match X_tg row.1 off with
          | some t => some (t, ls, r)
          | none => none)
        | none => none)
    | _ => none)
  | .lookupswitch d ps => (match st with
    | .int x :: r => (match X_tg row.1 (Op.lookupswitch.offset ps.toList d x.toInt) with
      | some t => some (t, ls, r)
      | none => none)
    | _ => none)
  | _ => none
def X_fit (ty : FieldType) (v : Value) : Bool := match ty, v with
  | .int, .int _ => true
  | .long, .long _ => true
  | .boolean, .int x => decide (x = 0) || decide (x = 1)
  | .array _, .ref _ => true
  | .object _, .ref _ => true
  | _, _ => false
/-- a fresh array; a row of words has the sign .short -/
def X_blank (at_ : Jvm.ClassFile.ArrayType) (n : Nat) : Option X_Cell := match at_ with
  | .int => some (.inl (.int, n, .inl fun _ => 0))
  | .long => some (.inl (.long, n, .inr (.inl fun _ => 0)))
  | .byte => some (.inl (.byte, n, .inl fun _ => 0))
  | .boolean => some (.inl (.boolean, n, .inl fun _ => 0))
  | _ => none
/-- the script: how long, what it holds -/
abbrev X_Sc : Type := Nat × (Nat → Int32)
/-- the instructions that read or write the heap -/
def X_hstep (sc : X_Sc) (row : X_Row) (st : List Value) (S : X_S) : Option (Nat × List Value × X_S) := match row.2.1.1 with
  | .getfield _ => (match st with
    | .ref q :: r => (match S.1 q with
      | .inr (ci, fs) => if ci = row.2.2.1 then (match fs[row.2.2.2.1]? with
          | some v => some (row.1 + 3, v :: r, S)
          | none => none)
        else none
      | _ => none)
    | _ => none)
  | .putfield _ => (match st with
    | v :: .ref q :: r => (match S.1 q with
      | .inr (ci, fs) => if ci = row.2.2.1 ∧ row.2.2.2.1 < fs.length ∧ X_fit (X_ty row.2.2.1 row.2.2.2.1) v = true then
          some (row.1 + 3, r, (X_upd S.1 q (.inr (ci, fs.set row.2.2.2.1 v)), S.2))
        else none
      | _ => none)
    | _ => none)
  | .new _ => (match X_df[row.2.2.1]? with
    | some fs => some (row.1 + 3, .ref S.2.1 :: st, (X_upd S.1 S.2.1 (.inr (row.2.2.1, fs)), S.2.1 + 1, S.2.2 + fs.length))
    | none => none)
  | .newarray at_ => (match st with
    | .int n :: r => if n < 0 ∨ 67108864 < n.toNatClampNeg then none else (match X_blank at_ n.toNatClampNeg with
        | some c => some (row.1 + 2, .ref S.2.1 :: r, (X_upd S.1 S.2.1 c, S.2.1 + 1, S.2.2 + n.toNatClampNeg))
        | none => none)
    | _ => none)
  | .anewarray _ => (match st with
    | .int n :: r => if n < 0 ∨ 67108864 < n.toNatClampNeg then none else
        some (row.1 + 3, .ref S.2.1 :: r, (X_upd S.1 S.2.1 (.inl (.short, n.toNatClampNeg, .inr (.inr (.inr (.inr fun _ => none))))), S.2.1 + 1, S.2.2 + n.toNatClampNeg))
    | _ => none)
  | .iaload => (match st with
    | .int i :: .ref q :: r => if row.2.2.1 = 0 then (match S.1 q with
        | .inl (.int, n, .inl f) => if i < 0 ∨ n ≤ i.toNatClampNeg then none else some (row.1 + 1, .int (f i.toNatClampNeg) :: r, S)
        | _ => none)
      else if q = 0 then (if i < 0 ∨ sc.1 ≤ i.toNatClampNeg then none else some (row.1 + 1, .int (sc.2 i.toNatClampNeg) :: r, S)) else none
    | _ => none)
  | .laload => (match st with
    | .int i :: .ref q :: r => (match S.1 q with
      | .inl (.long, n, .inr (.inl f)) => if i < 0 ∨ n ≤ i.toNatClampNeg then none else some (row.1 + 1, .long (f i.toNatClampNeg) :: r, S)
      | _ => none)
    | _ => none)
  | .baload => (match st with
    | .int i :: .ref q :: r => (match S.1 q with
      | .inl (.byte, n, .inl f) => if i < 0 ∨ n ≤ i.toNatClampNeg then none else some (row.1 + 1, .int (f i.toNatClampNeg) :: r, S)
      | .inl (.boolean, n, .inl f) => if i < 0 ∨ n ≤ i.toNatClampNeg then none else some (row.1 + 1, .int (f i.toNatClampNeg) :: r, S)
      | _ => none)
    | _ => none)
  | .aaload => (match st with
    | .int i :: .ref q :: r => (match S.1 q with
      | .inl (.short, n, .inr (.inr (.inr (.inr f)))) => if i < 0 ∨ n ≤ i.toNatClampNeg then none else some (row.1 + 1, va_rf (f i.toNatClampNeg) :: r, S)
      | _ => none)
    | _ => none)
  | .iastore => (match st with
    | .int x :: .int i :: .ref q :: r => (match S.1 q with
      | .inl (.int, n, .inl f) => if i < 0 ∨ n ≤ i.toNatClampNeg then none else some (row.1 + 1, r, (X_upd S.1 q (.inl (.int, n, .inl (upd f i.toNatClampNeg x))), S.2))
      | _ => none)
    | _ => none)
  | .lastore => (match st with
    | .long x :: .int i :: .ref q :: r => (match S.1 q with
      | .inl (.long, n, .inr (.inl f)) => if i < 0 ∨ n ≤ i.toNatClampNeg then none else some (row.1 + 1, r, (X_upd S.1 q (.inl (.long, n, .inr (.inl (vp_updL f i.toNatClampNeg x)))), S.2))
      | _ => none)
    | _ => none)
  | .bastore => (match st with
    | .int x :: .int i :: .ref q :: r => (match S.1 q with
      | .inl (.byte, n, .inl f) => if i < 0 ∨ n ≤ i.toNatClampNeg then none else some (row.1 + 1, r, (X_upd S.1 q (.inl (.byte, n, .inl (upd f i.toNatClampNeg (vp_nar .byte x)))), S.2))
      | .inl (.boolean, n, .inl f) => if i < 0 ∨ n ≤ i.toNatClampNeg then none else some (row.1 + 1, r, (X_upd S.1 q (.inl (.boolean, n, .inl (upd f i.toNatClampNeg (vp_nar .boolean x)))), S.2))
      | _ => none)
    | _ => none)
  | .aastore => (match st with
    | .ref v :: .int i :: .ref q :: r => (match S.1 q with
      | .inl (.short, n, .inr (.inr (.inr (.inr f)))) => (match S.1 v with
        | .inr (ci, _) => if ci ≠ X_wci ∨ i < 0 ∨ n ≤ i.toNatClampNeg then none else
            some (row.1 + 1, r, (X_upd S.1 q (.inl (.short, n, .inr (.inr (.inr (.inr (va_up f i.toNatClampNeg (some v))))))), S.2))
        | _ => none)
      | _ => none)
    | _ => none)
  | .arraylength => (match st with
    | .ref q :: r => if q = 0 ∧ row.2.2.1 ≠ 0 then some (row.1 + 1, .int (Int32.ofNat sc.1) :: r, S) else none
    | _ => none)
  | .invokespecial _ => (match st with
    | .ref _ :: r => if row.2.2.1 = 9999 ∧ (r.map fun v => v.category).sum ≤ 8 then some (row.1 + 3, r, S) else none
    | _ => none)
  | .invokestatic _ => if row.2.2.1 = 9998 then (match st with
      | .int n :: .int dp :: .ref a :: .int sp :: .ref a0 :: r => (match S.1 a0, S.1 a with
        | .inl (.long, n0, .inr (.inl f)), .inl (.long, n1, .inr (.inl g)) =>
          if sp < 0 ∨ dp < 0 ∨ n < 0 ∨ ¬ sp.toNatClampNeg + n.toNatClampNeg ≤ n0 ∨ ¬ dp.toNatClampNeg + n.toNatClampNeg ≤ n1 ∨ ¬ (r.map fun v => v.category).sum ≤ 8 then none
          else some (row.1 + 3, r, (X_upd S.1 a (.inl (.long, n1, .inr (.inl (va_cpy f g sp.toNatClampNeg dp.toNatClampNeg n.toNatClampNeg)))), S.2))
        | _, _ => none)
      | _ => none)
    else none
  | _ => none
def X_pop : Nat → List Value → Option (List Value × List Value)
  | 0, st => some ([], st)
  | n + 1, st => match st with
    | v :: r => (match X_pop n r with
      | some (as, r') => some (as ++ [v], r')
      | none => none)
    | [] => none
/-- calls and returns -/
def X_cstep (j : Nat) (row : X_Row) (ls : X_L) (st : List Value) (S : X_S) : Option X_O := match row.2.1.1 with
  | .invokevirtual _ => (match X_pop (X_na row.2.2.1) st with
    | some (as, .ref q :: r) => (match S.1 q with
      | .inr (ci, _) => if ci = X_ci row.2.2.1 ∧ (r.map fun v => v.category).sum ≤ 8 ∧ 1 + (as.map fun v => v.category).sum ≤ X_nL row.2.2.1 then some (.inr (.inl (row.2.2.1, .ref q :: as, (row.1 + 3, ls, r, S)))) else none
      | _ => none)
    | _ => none)
  | .invokespecial _ => (match X_pop (X_na row.2.2.1) st with
    | some (as, .ref q :: r) => if row.2.2.1 ≠ 9999 ∧ (r.map fun v => v.category).sum ≤ 8 ∧ 1 + (as.map fun v => v.category).sum ≤ X_nL row.2.2.1 then some (.inr (.inl (row.2.2.1, .ref q :: as, (row.1 + 3, ls, r, S)))) else none
    | _ => none)
  | .invokestatic _ => (match X_pop (X_na row.2.2.1) st with
    | some (as, r) => if row.2.2.1 ≠ 9998 ∧ (r.map fun v => v.category).sum ≤ 8 ∧ (as.map fun v => v.category).sum ≤ X_nL row.2.2.1 then some (.inr (.inl (row.2.2.1, as, (row.1 + 3, ls, r, S)))) else none
    | none => none)
  | .ireturn => (match st with
    | [.int x] => (match X_rt j with
      | some ty => if X_fit ty (.int x) = true then some (.inr (.inr (some (.int x), S))) else none
      | none => none)
    | _ => none)
  | .lreturn => (match st with
    | [.long x] => (match X_rt j with
      | some ty => if X_fit ty (.long x) = true then some (.inr (.inr (some (.long x), S))) else none
      | none => none)
    | _ => none)
  | .return_ => (match st with
    | [] => (match X_rt j with
      | none => some (.inr (.inr (none, S)))
      | _ => none)
    | _ => none)
  | _ => none
def X_step (sc : X_Sc) (j : Nat) (F : X_F) : Option X_O := match X_row j F.1 with
  | some row => (match X_pstep (X_nL j) row F.2.1 F.2.2.1 with
    | some (pc, ls, st) => some (.inl (pc, ls, st, F.2.2.2))
    | none => (match X_hstep sc row F.2.2.1 F.2.2.2 with
      | some (pc, st, S) => some (.inl (pc, F.2.1, st, S))
      | none => X_cstep j row F.2.1 F.2.2.1 F.2.2.2))
  | none => none
def X_run (sc : X_Sc) : Nat → Nat → X_F → Option (Option Value × X_S)
  | 0, _, _ => none
  | n + 1, j, F => match X_step sc j F with
    | some (.inl F') => X_run sc n j F'
    | some (.inr (.inl (k, as, (pc, ls, st, S)))) => (match X_run sc n k (0, lv_args 0 as, [], S) with
      | some (v, S') => X_run sc n j (pc, ls, v.toList ++ st, S')
      | none => none)
    | some (.inr (.inr r)) => some r
    | none => none
end
section
/-! THE SMALL MACHINE AND THE TRUE ONE: cell k + 1 stands at B + k, cell 0 (the script) at b -/
def X_ad (b B : Nat) : Nat → Nat
  | 0 => b
  | k + 1 => B + k
theorem X_ad_inj {b B : Nat} (h : b < B) {i j : Nat} (e : X_ad b B i = X_ad b B j) : i = j := by
  cases i <;> cases j <;> simp only [X_ad] at e <;> omega
theorem X_ad_ge {b B : Nat} {k : Nat} (h : k ≠ 0) : B ≤ X_ad b B k := by
  cases k with
  | zero => exact absurd rfl h
  | succ k => exact Nat.le_add_right _ _
theorem X_ad_lt {b B i n : Nat} (h : b < B) (hi : i < n) (h0 : 0 < n) : X_ad b B i < X_ad b B n := by
  cases n with
  | zero => omega
  | succ n => cases i <;> simp only [X_ad] <;> omega
theorem X_ad_succ {b B n : Nat} (h0 : 0 < n) : X_ad b B (n + 1) = X_ad b B n + 1 := by
  cases n with
  | zero => omega
  | succ n => simp only [X_ad]; omega
def X_cv (ad : Nat → Nat) (v : Value) : Value := match v with
  | .ref k => .ref (ad k)
  | .int x => .int x
  | .long x => .long x
  | .float x => .float x
  | .double x => .double x
  | .null => .null
  | .retAddr x => .retAddr x
theorem X_cv_cat (ad : Nat → Nat) (v : Value) : (X_cv ad v).category = v.category := by cases v <;> rfl
def X_cvs (ad : Nat → Nat) (st : List Value) : List Value := st.map (X_cv ad)
def X_cvl (ad : Nat → Nat) (ls : X_L) : X_L := ls.map (fun q => (q.1, X_cv ad q.2))
theorem X_cvs_cat (ad : Nat → Nat) (st : List Value) : ((X_cvs ad st).map fun v => v.category).sum = (st.map fun v => v.category).sum := by
  unfold X_cvs
  rw [List.map_map]
  congr 1
  exact List.map_congr_left (fun v _ => X_cv_cat ad v)
theorem X_cvl_s1 (ad : Nat → Nat) (ls : X_L) (i : Nat) (v : Value) :
    (i, X_cv ad v) :: (X_cvl ad ls).filter (fun q => !(q.1 == i) && !(q.1 + 1 == i && q.2.category == 2)) = X_cvl ad (X_s1 ls i v) := by
  unfold X_s1 X_cvl
  rw [List.map_cons, List.filter_map]
  congr 2
  refine List.filter_congr (fun q _ => ?_)
  simp only [Function.comp, X_cv_cat]
theorem X_cvl_s2 (ad : Nat → Nat) (ls : X_L) (i : Nat) (v : Value) :
    (i, X_cv ad v) :: (X_cvl ad ls).filter (fun q => !(q.1 == i) && (!(q.1 == i + 1) && !(q.1 + 1 == i && q.2.category == 2))) = X_cvl ad (X_s2 ls i v) := by
  unfold X_s2 X_cvl
  rw [List.map_cons, List.filter_map]
  congr 2
  refine List.filter_congr (fun q _ => ?_)
  simp only [Function.comp, X_cv_cat]
theorem X_ld_mem {ls : X_L} {i : Nat} {v : Value} (h : X_ld ls i = some v) : (i, v) ∈ ls := by
  induction ls with
  | nil => simp [X_ld] at h
  | cons q r ih =>
    unfold X_ld at h
    split at h
    · rename_i hq
      cases h
      subst hq
      exact List.mem_cons_self
    · exact List.mem_cons_of_mem _ (ih h)
theorem X_ld_at {ad : Nat → Nat} {lsA : Array Slot} {nL : Nat} {ls : X_L} {i : Nat} {v : Value} (hl : lv_has lsA nL (X_cvl ad ls)) (h : X_ld ls i = some v) : lsA[i]? = some (.val (X_cv ad v)) :=
  hl.2.2 (i, X_cv ad v) (List.mem_map.mpr ⟨_, X_ld_mem h, rfl⟩)
theorem X_tg_spec {pc t : Nat} {off : Int} (h : X_tg pc off = some t) : (pc : Int) + off = (t : Int) := by
  unfold X_tg at h
  split at h
  · rename_i z hz
    cases h
    exact hz
  · cases h
theorem X_args (ad : Nat → Nat) (as : List Value) : ∀ n, lv_args n (X_cvs ad as) = X_cvl ad (lv_args n as) := by
  induction as with
  | nil => intro n; rfl
  | cons v r ih =>
    intro n
    show (n, X_cv ad v) :: lv_args (if (X_cv ad v).category = 2 then n + 2 else n + 1) (X_cvs ad r) = _
    rw [X_cv_cat, ih]
    rfl
/-! cells -/
def X_va (ad : Nat → Nat) (a : vp_A) : vp_A := match a.2 with
  | .inr (.inr (.inr (.inr f))) => (a.1, .inr (.inr (.inr (.inr fun j => (f j).map ad))))
  | .inl f => (a.1, .inl f)
  | .inr (.inl f) => (a.1, .inr (.inl f))
  | .inr (.inr (.inl f)) => (a.1, .inr (.inr (.inl f)))
  | .inr (.inr (.inr (.inl f))) => (a.1, .inr (.inr (.inr (.inl f))))
def X_ce (ad : Nat → Nat) (cA : FieldType → ClassId) (c : X_Cell) : va_E := match c with
  | .inl a => .inl (cA a.1, X_va ad a.2)
  | .inr o => .inr (o.1, X_cvs ad o.2)
/-- the type of a row's components by its sign -/
def X_rty (t : FieldType) : FieldType := match t with
  | .short => .object RX8
  | t => t
def X_tys : List FieldType := [.int, .long, .byte, .boolean, .short]
/-- the heap of the small machine in the true one's; the script's cell is none of it -/
def X_Rl (b B : Nat) (scr : Cell) (D : va_G) (cA : FieldType → ClassId) (S : X_S) (H : Heap) : Prop :=
  b < B ∧ H.size = X_ad b B S.2.1 ∧ 0 < S.2.1 ∧ H[b]? = some scr ∧ S.1 0 = X_no
  ∧ (∀ k, 0 < k → k < S.2.1 → va_at D X_cl (X_ad b B k, X_ce (X_ad b B) cA (S.1 k)) H) ∧ ∀ k, S.2.1 ≤ k → S.1 k = X_no
/-- what the tables say -/
def X_K (D : va_G) (cA : FieldType → ClassId) (s : State) : Prop :=
  (∀ (c : Nat) (q : vw_C), X_cl[c]? = some q → u_Kn s q.1 q.2.1 q.2.2 (D.1 c) (D.2 c)) ∧ (∀ ty ∈ X_tys, ArrOfT s (cA ty) (X_rty ty) ∧ va_RA s (cA ty) (X_rty ty)) ∧ (∀ w ∈ X_nest, va_Nw w s) ∧ va_AO RX8 s
theorem X_Rl.upd {b B : Nat} {scr : Cell} {D : va_G} {cA : FieldType → ClassId} {S : X_S} {H H1 : Heap} (h : X_Rl b B scr D cA S H) {q : Nat} {c : X_Cell} (h0 : 0 < q) (hq : q < S.2.1) (z : H1.size = H.size)
    (oq : ∀ r : Nat, r ≠ X_ad b B q → H1[r]? = H[r]?) (hc : va_at D X_cl (X_ad b B q, X_ce (X_ad b B) cA c) H1) : X_Rl b B scr D cA (X_upd S.1 q c, S.2) H1 := by
  obtain ⟨hb, h1, h2, h3, h4, h5, h6⟩ := h
  refine ⟨hb, by rw [z]; exact h1, h2, ?_, ?_, fun k hk hk2 => ?_, fun k hk => ?_⟩
  · rw [oq b (fun e => by have := X_ad_ge (b := b) (B := B) (k := q) (by omega); omega)]
    exact h3
  · show X_upd S.1 q c 0 = _
    unfold X_upd
    rw [if_neg (by omega)]
    exact h4
  · show va_at D X_cl (X_ad b B k, X_ce (X_ad b B) cA (X_upd S.1 q c k)) H1
    unfold X_upd
    by_cases e : k = q
    · subst e
      rw [if_pos rfl]
      exact hc
    · rw [if_neg e]
      exact (h5 k hk hk2).kept (oq _ (fun e2 => e (X_ad_inj hb e2)))
  · show X_upd S.1 q c k = _
    unfold X_upd
    rw [if_neg (by have : S.2.1 ≤ k := hk; omega)]
    exact h6 k hk
theorem X_Rl.push {b B : Nat} {scr : Cell} {D : va_G} {cA : FieldType → ClassId} {S : X_S} {H H1 : Heap} (h : X_Rl b B scr D cA S H) {c : X_Cell} {n : Nat} (z : H1.size = H.size + 1)
    (oq : ∀ r : Nat, r < H.size → H1[r]? = H[r]?) (hc : va_at D X_cl (H.size, X_ce (X_ad b B) cA c) H1) : X_Rl b B scr D cA (X_upd S.1 S.2.1 c, S.2.1 + 1, S.2.2 + n) H1 := by
  obtain ⟨hb, h1, h2, h3, h4, h5, h6⟩ := h
  have hbs : b < H.size := by rw [h1]; exact X_ad_lt (i := 0) hb h2 h2
  refine ⟨hb, by rw [z, h1]; exact (X_ad_succ h2).symm, Nat.succ_pos _, by rw [oq b hbs]; exact h3, ?_, fun k hk hk2 => ?_, fun k hk => ?_⟩
  · show X_upd S.1 S.2.1 c 0 = _
    unfold X_upd
    rw [if_neg (by omega)]
    exact h4
  · show va_at D X_cl (X_ad b B k, X_ce (X_ad b B) cA (X_upd S.1 S.2.1 c k)) H1
    unfold X_upd
    by_cases e : k = S.2.1
    · subst e
      rw [if_pos rfl, ← h1]
      exact hc
    · rw [if_neg e]
      have hk3 : k < S.2.1 := by have : k < S.2.1 + 1 := hk2; omega
      exact (h5 k hk hk3).kept (oq _ (by rw [h1]; exact X_ad_lt hb hk3 h2))
  · show X_upd S.1 S.2.1 c k = _
    have hk' : S.2.1 + 1 ≤ k := hk
    unfold X_upd
    rw [if_neg (by omega)]
    exact h6 k (by omega)
/-- a cell that is there -/
theorem X_Rl.lt {b B : Nat} {scr : Cell} {D : va_G} {cA : FieldType → ClassId} {S : X_S} {H : Heap} (h : X_Rl b B scr D cA S H) {q : Nat} (hq : S.1 q ≠ X_no) : q < S.2.1 := by
  rcases Nat.lt_or_ge q S.2.1 with h1 | h1
  · exact h1
  · exact absurd (h.2.2.2.2.2.2 q h1) hq
theorem X_Rl.pos {b B : Nat} {scr : Cell} {D : va_G} {cA : FieldType → ClassId} {S : X_S} {H : Heap} (h : X_Rl b B scr D cA S H) {q : Nat} {c : X_Cell} (hc : S.1 q = c) (hne : c ≠ X_no) : 0 < q := by
  rcases Nat.eq_zero_or_pos q with h1 | h1
  · subst h1
    exact absurd (hc.symm.trans h.2.2.2.2.1) hne
  · exact h1
theorem X_Rl.at {b B : Nat} {scr : Cell} {D : va_G} {cA : FieldType → ClassId} {S : X_S} {H : Heap} (h : X_Rl b B scr D cA S H) {q : Nat} {c : X_Cell} (hc : S.1 q = c) (hne : c ≠ X_no) : va_at D X_cl (X_ad b B q, X_ce (X_ad b B) cA c) H := by
  have h0 := h.pos hc hne
  subst hc
  exact h.2.2.2.2.2.1 q h0 (h.lt hne)
theorem X_inl_ne {a : FieldType × vp_A} : (Sum.inl a : X_Cell) ≠ X_no := fun e => by cases e
theorem X_fit_ok {ty : FieldType} {v : Value} (ad : Nat → Nat) (h : X_fit ty v = true) : narrow ty (X_cv ad v) = X_cv ad v ∧ fits ty (X_cv ad v) = true := by
  unfold X_fit at h
  split at h
  · exact ⟨rfl, rfl⟩
  · exact ⟨rfl, rfl⟩
  · rename_i x
    simp only [Bool.or_eq_true, decide_eq_true_eq] at h
    have e0 : narrow .boolean (.int 0) = .int 0 ∧ fits .boolean (.int 0) = true := by decide
    have e1 : narrow .boolean (.int 1) = .int 1 ∧ fits .boolean (.int 1) = true := by decide
    rcases h with h | h
    · subst h
      exact e0
    · subst h
      exact e1
  · exact ⟨rfl, rfl⟩
  · exact ⟨rfl, rfl⟩
  · cases h
end
section
theorem X_i2_inv {g : Int32 → Int32 → Option Value} {pc : Nat} {ls : X_L} {st : List Value} {r : X_P} (h : X_i2 g pc ls st = some r) : ∃ x y v t, st = .int y :: .int x :: t ∧ g x y = some v ∧ r = (pc, ls, v :: t) := by
  unfold X_i2 at h
  split at h
  · split at h
    · rename_i hg
      cases h
      exact ⟨_, _, _, _, rfl, hg, rfl⟩
    · cases h
  · cases h
theorem X_l2_inv {g : Int64 → Int64 → Option Value} {pc : Nat} {ls : X_L} {st : List Value} {r : X_P} (h : X_l2 g pc ls st = some r) : ∃ x y v t, st = .long y :: .long x :: t ∧ g x y = some v ∧ r = (pc, ls, v :: t) := by
  unfold X_l2 at h
  split at h
  · split at h
    · rename_i hg
      cases h
      exact ⟨_, _, _, _, rfl, hg, rfl⟩
    · cases h
  · cases h
theorem X_li_inv {g : Int64 → Int32 → Value} {pc : Nat} {ls : X_L} {st : List Value} {r : X_P} (h : X_li g pc ls st = some r) : ∃ x y t, st = .int y :: .long x :: t ∧ r = (pc, ls, g x y :: t) := by
  unfold X_li at h
  split at h
  · cases h
    exact ⟨_, _, _, rfl, rfl⟩
  · cases h
theorem X_i1_inv {g : Int32 → Value} {pc : Nat} {ls : X_L} {st : List Value} {r : X_P} (h : X_i1 g pc ls st = some r) : ∃ x t, st = .int x :: t ∧ r = (pc, ls, g x :: t) := by
  unfold X_i1 at h
  split at h
  · cases h
    exact ⟨_, _, rfl, rfl⟩
  · cases h
theorem X_l1_inv {g : Int64 → Value} {pc : Nat} {ls : X_L} {st : List Value} {r : X_P} (h : X_l1 g pc ls st = some r) : ∃ x t, st = .long x :: t ∧ r = (pc, ls, g x :: t) := by
  unfold X_l1 at h
  split at h
  · cases h
    exact ⟨_, _, rfl, rfl⟩
  · cases h
theorem X_br_inv {b : Bool} {t : Option Nat} {pc : Nat} {ls : X_L} {r : List Value} {q : X_P} (h : X_br b t pc ls r = some q) : ∃ tg, t = some tg ∧ ((b = true ∧ q = (tg, ls, r)) ∨ (b = false ∧ q = (pc, ls, r))) := by
  unfold X_br at h
  split at h
  · split at h
    · rename_i hb
      cases h
      exact ⟨_, rfl, Or.inl ⟨hb, rfl⟩⟩
    · rename_i hb
      cases h
      exact ⟨_, rfl, Or.inr ⟨by simpa using hb, rfl⟩⟩
  · cases h
theorem X_li__inv {n pc : Nat} {ls : X_L} {st : List Value} {r : X_P} (h : X_li_ n pc ls st = some r) : ∃ x, X_ld ls n = some (.int x) ∧ r = (pc, ls, .int x :: st) := by
  unfold X_li_ at h
  split at h
  · rename_i hx
    cases h
    exact ⟨_, hx, rfl⟩
  · cases h
theorem X_ll__inv {n pc : Nat} {ls : X_L} {st : List Value} {r : X_P} (h : X_ll_ n pc ls st = some r) : ∃ x, X_ld ls n = some (.long x) ∧ r = (pc, ls, .long x :: st) := by
  unfold X_ll_ at h
  split at h
  · rename_i hx
    cases h
    exact ⟨_, hx, rfl⟩
  · cases h
theorem X_la__inv {n pc : Nat} {ls : X_L} {st : List Value} {r : X_P} (h : X_la_ n pc ls st = some r) : ∃ x, X_ld ls n = some (.ref x) ∧ r = (pc, ls, .ref x :: st) := by
  unfold X_la_ at h
  split at h
  · rename_i hx
    cases h
    exact ⟨_, hx, rfl⟩
  · cases h
theorem X_si__inv {nL n pc : Nat} {ls : X_L} {st : List Value} {r : X_P} (h : X_si_ nL n pc ls st = some r) : ∃ x t, st = .int x :: t ∧ n < nL ∧ r = (pc, X_s1 ls n (.int x), t) := by
  unfold X_si_ at h
  split at h
  · split at h
    · rename_i hx
      cases h
      exact ⟨_, _, rfl, hx, rfl⟩
    · cases h
  · cases h
theorem X_sl__inv {nL n pc : Nat} {ls : X_L} {st : List Value} {r : X_P} (h : X_sl_ nL n pc ls st = some r) : ∃ x t, st = .long x :: t ∧ n + 1 < nL ∧ r = (pc, X_s2 ls n (.long x), t) := by
  unfold X_sl_ at h
  split at h
  · split at h
    · rename_i hx
      cases h
      exact ⟨_, _, rfl, hx, rfl⟩
    · cases h
  · cases h
theorem X_sa__inv {nL n pc : Nat} {ls : X_L} {st : List Value} {r : X_P} (h : X_sa_ nL n pc ls st = some r) : ∃ x t, st = .ref x :: t ∧ n < nL ∧ r = (pc, X_s1 ls n (.ref x), t) := by
  unfold X_sa_ at h
  split at h
  · split at h
    · rename_i hx
      cases h
      exact ⟨_, _, rfl, hx, rfl⟩
    · cases h
  · cases h
def lw_g : List Cond := lw_tbl.filter goodWord
theorem X_wd_in {p : Nat} {w : Cond} (h : X_wd p w = true) : w ∈ lw_g := by
  unfold X_wd at h
  simp only [Bool.and_eq_true, decide_eq_true_eq] at h
  exact List.mem_filter.mpr ⟨List.mem_of_getElem? h.1, h.2⟩
/-- what holds in a method's frame -/
def X_Cx (scr : Cell) (D : va_G) (cA : FieldType → ClassId) (p : Program) (R : Room) (s : State) (m : MethodId) (args : Array Value) (meth : Method) (c : Code) (j : Nat) : Prop :=
  p.tables.exec = Jvm.exec ∧ c.code = X_b j ∧ meth.sig.returnType = X_rt j ∧ c.maxLocals = X_nL j ∧ s.vm.findClass (X_R (X_o j)) = some m.cls ∧ (∀ w ∈ lw_g, w.before args s = true) ∧ meth.locks = false ∧ (X_init j = true → meth.name = "<init>")
  ∧ X_K D cA s ∧ X_fr j ≤ R.frames ∧ X_lo j ≤ R.locals ∧ (j = X_lawj → s.isArrayOf scr .int ∧ scr.vm ≠ .unknown)
theorem X_chk_dec {j pc n : Nat} {i : Jvm.ClassFile.Instr} {ax : Nat × Nat × Nat} (h : X_chk j (pc, (i, n), ax) = true) : decode (X_b j) pc = .ok (i, X_ln i n) := by
  unfold X_chk at h
  simp only [Bool.and_eq_true, decide_eq_true_eq] at h
  exact h.1
section X_PURE
variable {p : Program} {l : Launch} {e : Env} {R : Room} {s : State} {m : MethodId} {args : Array Value} {below : List Frame} {meth : Method} {c : Code} {H : Heap} {locs : List Loc} {cells slots : Nat} {Q : State → Prop}
variable {scr : Cell} {D : va_G} {cA : FieldType → ClassId} {ad : Nat → Nat} {j : Nat}
set_option maxHeartbeats 4000000 in
theorem X_pure (C : X_Cx scr D cA p R s m args meth c j) {row : X_Row} {ls ls' : X_L} {st st' : List Value} {pc' : Nat} {lsA : Array Slot} (hc : X_chk j row = true) (hl : lv_has lsA (X_nL j) (X_cvl ad ls))
    (hs : X_pstep (X_nL j) row ls st = some (pc', ls', st'))
    (k : ∀ lsA', lv_has lsA' (X_nL j) (X_cvl ad ls') → W p l e R s m args below meth c H locs cells slots Q (F0 m pc' lsA' (X_cvs ad st'))) : W p l e R s m args below meth c H locs cells slots Q (F0 m row.1 lsA (X_cvs ad st)) := by
  obtain ⟨hx, hb, hr, hml, hown, hts, hlocks, hin, hK, hfr, hlo, hlaw⟩ := C
  obtain ⟨pc, ⟨i, n⟩, ax⟩ := row
  have hd := X_chk_dec hc
  cases i with
  | iconst z => cases hs; exact lv_iconst hx hb hd rfl (k lsA hl)
  | bipush z => cases hs; exact lv_bipush hx hb hd rfl (k lsA hl)
  | sipush z => cases hs; exact lv_sipush hx hb hd rfl (k lsA hl)
  | lconst z => cases hs; exact lv_lconst hx hb hd rfl (k lsA hl)
  | ldc z =>
    cases hs
    have hw : X_wd ax.2.1 (.constant (X_R (X_o j)) z (Int32.ofNat ax.1)) = true := by
      unfold X_chk at hc
      simp only [Bool.and_eq_true] at hc
      exact hc.2
    exact lv_ldc hx hb hown (hts _ (X_wd_in hw)) hd (k lsA hl)
  | ldc2_w z =>
    cases hs
    have hw : X_wd ax.2.1 (.constantLong (X_R (X_o j)) z (Int64.ofNat ax.1)) = true := by
      unfold X_chk at hc
      simp only [Bool.and_eq_true] at hc
      exact hc.2
    exact lv_ldc2 hx hb hown (hts _ (X_wd_in hw)) hd (k lsA hl)
  | iload z =>
    obtain ⟨x, h1, h2⟩ := X_li__inv hs
    cases h2
    exact lv_iload hx hb hd (X_ld_at hl h1) (k lsA hl)
  | iload_n z =>
    obtain ⟨x, h1, h2⟩ := X_li__inv hs
    cases h2
    exact lv_iload_n hx hb hd rfl (X_ld_at hl h1) (k lsA hl)
  | lload z =>
    obtain ⟨x, h1, h2⟩ := X_ll__inv hs
    cases h2
    exact lv_lload hx hb hd (X_ld_at hl h1) (k lsA hl)
  | lload_n z =>
    obtain ⟨x, h1, h2⟩ := X_ll__inv hs
    cases h2
    exact lv_lload_n hx hb hd rfl (X_ld_at hl h1) (k lsA hl)
  | aload z =>
    obtain ⟨x, h1, h2⟩ := X_la__inv hs
    cases h2
    exact lv_aload hx hb hd (X_ld_at hl h1) (k lsA hl)
  | aload_n z =>
    obtain ⟨x, h1, h2⟩ := X_la__inv hs
    cases h2
    exact lv_aload_n hx hb hd rfl (X_ld_at hl h1) (k lsA hl)
  | istore z =>
    obtain ⟨x, t, rfl, h1, h2⟩ := X_si__inv hs
    cases h2
    exact lv_istore hx hb hd hl h1 (X_cvl_s1 ad ls z (.int x)) (fun lsA' hl' => k lsA' hl')
  | istore_n z =>
    obtain ⟨x, t, rfl, h1, h2⟩ := X_si__inv hs
    cases h2
    exact lv_istore_n hx hb hd rfl hl h1 (X_cvl_s1 ad ls z (.int x)) (fun lsA' hl' => k lsA' hl')
  | lstore z =>
    obtain ⟨x, t, rfl, h1, h2⟩ := X_sl__inv hs
    cases h2
    exact lv_lstore hx hb hd hl h1 (X_cvl_s2 ad ls z (.long x)) (fun lsA' hl' => k lsA' hl')
  | lstore_n z =>
    obtain ⟨x, t, rfl, h1, h2⟩ := X_sl__inv hs
    cases h2
    exact lv_lstore_n hx hb hd rfl hl h1 (X_cvl_s2 ad ls z (.long x)) (fun lsA' hl' => k lsA' hl')
  | astore z =>
    obtain ⟨x, t, rfl, h1, h2⟩ := X_sa__inv hs
    cases h2
    exact lv_astore hx hb hd hl h1 (X_cvl_s1 ad ls z (.ref x)) (fun lsA' hl' => k lsA' hl')
  | astore_n z =>
    obtain ⟨x, t, rfl, h1, h2⟩ := X_sa__inv hs
    cases h2
    exact lv_astore_n hx hb hd rfl hl h1 (X_cvl_s1 ad ls z (.ref x)) (fun lsA' hl' => k lsA' hl')
  | iinc z q =>
    simp only [X_pstep] at hs
    split at hs
    · rename_i x hx1
      split at hs
      · rename_i hn
        cases hs
        obtain ⟨kk, hkk⟩ := List.getElem?_of_mem (List.mem_map.mpr ⟨_, X_ld_mem hx1, rfl⟩ : ((z, X_cv ad (.int x)) : Nat × Value) ∈ X_cvl ad ls)
        exact lv_iinc hx hb hd hl hkk rfl hn (X_cvl_s1 ad ls z (.int (x + Int32.ofInt q))) (fun lsA' hl' => k lsA' hl')
      · cases hs
    · cases hs
  | iadd =>
    simp only [X_pstep] at hs
    obtain ⟨x, y, v, t, rfl, h1, h2⟩ := X_i2_inv hs
    cases h1
    cases h2
    exact lv_iadd hx hb hd (k lsA hl)
  | isub =>
    simp only [X_pstep] at hs
    obtain ⟨x, y, v, t, rfl, h1, h2⟩ := X_i2_inv hs
    cases h1
    cases h2
    exact lv_isub hx hb hd (k lsA hl)
  | imul =>
    simp only [X_pstep] at hs
    obtain ⟨x, y, v, t, rfl, h1, h2⟩ := X_i2_inv hs
    cases h1
    cases h2
    exact lv_imul hx hb hd (k lsA hl)
  | iand =>
    simp only [X_pstep] at hs
    obtain ⟨x, y, v, t, rfl, h1, h2⟩ := X_i2_inv hs
    cases h1
    cases h2
    exact lv_iand hx hb hd (k lsA hl)
  | ior =>
    simp only [X_pstep] at hs
    obtain ⟨x, y, v, t, rfl, h1, h2⟩ := X_i2_inv hs
    cases h1
    cases h2
    exact lv_ior hx hb hd (k lsA hl)
  | ishl =>
    simp only [X_pstep] at hs
    obtain ⟨x, y, v, t, rfl, h1, h2⟩ := X_i2_inv hs
    cases h1
    cases h2
    exact lv_ishl hx hb hd (k lsA hl)
  | ishr =>
    simp only [X_pstep] at hs
    obtain ⟨x, y, v, t, rfl, h1, h2⟩ := X_i2_inv hs
    cases h1
    cases h2
    exact lv_ishr hx hb hd (k lsA hl)
  | idiv =>
    simp only [X_pstep] at hs
    obtain ⟨x, y, v, t, rfl, h1, h2⟩ := X_i2_inv hs
    split at h1
    · cases h1
    · rename_i hne
      cases h1
      cases h2
      exact lv_idiv hx hb hd hne (k lsA hl)
  | irem =>
    simp only [X_pstep] at hs
    obtain ⟨x, y, v, t, rfl, h1, h2⟩ := X_i2_inv hs
    split at h1
    · cases h1
    · rename_i hne
      cases h1
      cases h2
      exact lv_irem hx hb hd hne (k lsA hl)
  | ladd =>
    simp only [X_pstep] at hs
    obtain ⟨x, y, v, t, rfl, h1, h2⟩ := X_l2_inv hs
    cases h1
    cases h2
    exact lv_ladd hx hb hd (k lsA hl)
  | lsub =>
    simp only [X_pstep] at hs
    obtain ⟨x, y, v, t, rfl, h1, h2⟩ := X_l2_inv hs
    cases h1
    cases h2
    exact lv_lsub hx hb hd (k lsA hl)
  | lmul =>
    simp only [X_pstep] at hs
    obtain ⟨x, y, v, t, rfl, h1, h2⟩ := X_l2_inv hs
    cases h1
    cases h2
    exact lv_lmul hx hb hd (k lsA hl)
  | land =>
    simp only [X_pstep] at hs
    obtain ⟨x, y, v, t, rfl, h1, h2⟩ := X_l2_inv hs
    cases h1
    cases h2
    exact lv_land hx hb hd (k lsA hl)
  | lor =>
    simp only [X_pstep] at hs
    obtain ⟨x, y, v, t, rfl, h1, h2⟩ := X_l2_inv hs
    cases h1
    cases h2
    exact lv_lor hx hb hd (k lsA hl)
  | lcmp =>
    simp only [X_pstep] at hs
    obtain ⟨x, y, v, t, rfl, h1, h2⟩ := X_l2_inv hs
    cases h1
    cases h2
    exact W.lcmp hx hb hd (k lsA hl)
  | ldiv =>
    simp only [X_pstep] at hs
    obtain ⟨x, y, v, t, rfl, h1, h2⟩ := X_l2_inv hs
    split at h1
    · cases h1
    · rename_i hne
      cases h1
      cases h2
      exact lv_ldiv hx hb hd hne (k lsA hl)
  | lrem =>
    simp only [X_pstep] at hs
    obtain ⟨x, y, v, t, rfl, h1, h2⟩ := X_l2_inv hs
    split at h1
    · cases h1
    · rename_i hne
      cases h1
      cases h2
      exact lv_lrem hx hb hd hne (k lsA hl)
  | lshl =>
    simp only [X_pstep] at hs
    obtain ⟨x, y, t, rfl, h2⟩ := X_li_inv hs
    cases h2
    exact lv_lshl hx hb hd rfl (k lsA hl)
  | lshr =>
    simp only [X_pstep] at hs
    obtain ⟨x, y, t, rfl, h2⟩ := X_li_inv hs
    cases h2
    exact lv_lshr hx hb hd rfl (k lsA hl)
  | ineg =>
    simp only [X_pstep] at hs
    obtain ⟨x, t, rfl, h2⟩ := X_i1_inv hs
    cases h2
    exact lv_ineg hx hb hd (k lsA hl)
  | i2l =>
    simp only [X_pstep] at hs
    obtain ⟨x, t, rfl, h2⟩ := X_i1_inv hs
    cases h2
    exact lv_i2l hx hb hd rfl (k lsA hl)
  | i2b =>
    simp only [X_pstep] at hs
    obtain ⟨x, t, rfl, h2⟩ := X_i1_inv hs
    cases h2
    exact lv_i2b hx hb hd rfl (k lsA hl)
  | l2i =>
    simp only [X_pstep] at hs
    obtain ⟨x, t, rfl, h2⟩ := X_l1_inv hs
    cases h2
    exact lv_l2i hx hb hd rfl (k lsA hl)
  | dup =>
    simp only [X_pstep] at hs
    split at hs
    · split at hs
      · rename_i hv
        cases hs
        exact lv_dup hx hb hd (by rw [X_cv_cat]; exact hv) (k lsA hl)
      · cases hs
    · cases hs
  | dup2 =>
    simp only [X_pstep] at hs
    split at hs
    · split at hs
      · rename_i hv
        cases hs
        exact lv_dup2_11 hx hb hd (by rw [X_cv_cat]; exact hv.1) (by rw [X_cv_cat]; exact hv.2) (k lsA hl)
      · cases hs
    · cases hs
  | pop =>
    simp only [X_pstep] at hs
    split at hs
    · split at hs
      · rename_i hv
        cases hs
        exact lv_pop hx hb hd (by rw [X_cv_cat]; exact hv) (k lsA hl)
      · cases hs
    · cases hs
  | goto off =>
    simp only [X_pstep] at hs
    split at hs
    · rename_i t ht
      cases hs
      exact lv_goto hx hb hd (X_tg_spec ht) (k lsA hl)
    · cases hs
  | tableswitch d lo hi offs =>
    simp only [X_pstep] at hs
    split at hs
    · rename_i x r
      split at hs
      · rename_i hout
        split at hs
        · rename_i t ht
          cases hs
          exact lv_tableOut hx hb hd hout (X_tg_spec ht) (k lsA hl)
        · cases hs
      · rename_i hin2
        split at hs
        · rename_i off ho
          split at hs
          · rename_i t ht
            cases hs
            exact lv_tableIn hx hb hd (fun q => hin2 (Or.inl q)) (fun q => hin2 (Or.inr q)) ho (X_tg_spec ht) (k lsA hl)
          · cases hs
        · cases hs
    · cases hs
  | lookupswitch d ps =>
    simp only [X_pstep] at hs
    split at hs
    · rename_i x r
      split at hs
      · rename_i t ht
        cases hs
        have hw : (ps.toList.zip (ps.toList.drop 1)).all (fun (a, next) => a.1 < next.1) = true := by
          unfold X_chk at hc
          simp only [Bool.and_eq_true] at hc
          exact hc.2
        exact lv_lookup hx hb hd hw rfl (X_tg_spec ht) (k lsA hl)
      · cases hs
    · cases hs
  | ifCond cd off =>
    simp only [X_pstep] at hs
    split at hs
    · rename_i x r
      obtain ⟨tg, ht, hq⟩ := X_br_inv hs
      have ht := X_tg_spec ht
      cases cd with
      | eq =>
        rcases hq with ⟨hb1, hq⟩ | ⟨hb1, hq⟩
        · cases hq
          exact lv_if_eq hx hb hd ht (fun _ => k lsA hl) (fun hn => absurd (of_decide_eq_true hb1) hn)
        · cases hq
          exact lv_if_eq hx hb hd ht (fun hp => absurd hp (of_decide_eq_false hb1)) (fun _ => k lsA hl)
      | ne =>
        rcases hq with ⟨hb1, hq⟩ | ⟨hb1, hq⟩
        · cases hq
          exact lv_if_ne hx hb hd ht (fun _ => k lsA hl) (fun hn => absurd hn (of_decide_eq_true hb1))
        · cases hq
          exact lv_if_ne hx hb hd ht (fun hp => absurd hp (of_decide_eq_false hb1)) (fun _ => k lsA hl)
      | lt =>
        rcases hq with ⟨hb1, hq⟩ | ⟨hb1, hq⟩
        · cases hq
          exact lv_if_lt hx hb hd ht (fun _ => k lsA hl) (fun hn => absurd (of_decide_eq_true hb1) hn)
        · cases hq
          exact lv_if_lt hx hb hd ht (fun hp => absurd hp (of_decide_eq_false hb1)) (fun _ => k lsA hl)
      | ge =>
        rcases hq with ⟨hb1, hq⟩ | ⟨hb1, hq⟩
        · cases hq
          exact lv_if_ge hx hb hd ht (fun _ => k lsA hl) (fun hn => absurd (of_decide_eq_true hb1) hn)
        · cases hq
          exact lv_if_ge hx hb hd ht (fun hp => absurd hp (of_decide_eq_false hb1)) (fun _ => k lsA hl)
      | gt =>
        rcases hq with ⟨hb1, hq⟩ | ⟨hb1, hq⟩
        · cases hq
          exact lv_if_gt hx hb hd ht (fun _ => k lsA hl) (fun hn => absurd (of_decide_eq_true hb1) hn)
        · cases hq
          exact lv_if_gt hx hb hd ht (fun hp => absurd hp (of_decide_eq_false hb1)) (fun _ => k lsA hl)
      | le =>
        rcases hq with ⟨hb1, hq⟩ | ⟨hb1, hq⟩
        · cases hq
          exact lv_if_le hx hb hd ht (fun _ => k lsA hl) (fun hn => absurd (of_decide_eq_true hb1) hn)
        · cases hq
          exact lv_if_le hx hb hd ht (fun hp => absurd hp (of_decide_eq_false hb1)) (fun _ => k lsA hl)
    · cases hs
  | if_icmp cd off =>
    simp only [X_pstep] at hs
    split at hs
    · rename_i y x r
      obtain ⟨tg, ht, hq⟩ := X_br_inv hs
      have ht := X_tg_spec ht
      cases cd with
      | eq =>
        rcases hq with ⟨hb1, hq⟩ | ⟨hb1, hq⟩
        · cases hq
          exact lv_icmp_eq hx hb hd ht (fun _ => k lsA hl) (fun hn => absurd (of_decide_eq_true hb1) hn)
        · cases hq
          exact lv_icmp_eq hx hb hd ht (fun hp => absurd hp (of_decide_eq_false hb1)) (fun _ => k lsA hl)
      | ne =>
        rcases hq with ⟨hb1, hq⟩ | ⟨hb1, hq⟩
        · cases hq
          exact lv_icmp_ne hx hb hd ht (fun _ => k lsA hl) (fun hn => absurd hn (of_decide_eq_true hb1))
        · cases hq
          exact lv_icmp_ne hx hb hd ht (fun hp => absurd hp (of_decide_eq_false hb1)) (fun _ => k lsA hl)
      | lt =>
        rcases hq with ⟨hb1, hq⟩ | ⟨hb1, hq⟩
        · cases hq
          exact lv_icmp_lt hx hb hd ht (fun _ => k lsA hl) (fun hn => absurd (of_decide_eq_true hb1) hn)
        · cases hq
          exact lv_icmp_lt hx hb hd ht (fun hp => absurd hp (of_decide_eq_false hb1)) (fun _ => k lsA hl)
      | ge =>
        rcases hq with ⟨hb1, hq⟩ | ⟨hb1, hq⟩
        · cases hq
          exact lv_icmp_ge hx hb hd ht (fun _ => k lsA hl) (fun hn => absurd (of_decide_eq_true hb1) hn)
        · cases hq
          exact lv_icmp_ge hx hb hd ht (fun hp => absurd hp (of_decide_eq_false hb1)) (fun _ => k lsA hl)
      | gt =>
        rcases hq with ⟨hb1, hq⟩ | ⟨hb1, hq⟩
        · cases hq
          exact lv_icmp_gt hx hb hd ht (fun _ => k lsA hl) (fun hn => absurd (of_decide_eq_true hb1) hn)
        · cases hq
          exact lv_icmp_gt hx hb hd ht (fun hp => absurd hp (of_decide_eq_false hb1)) (fun _ => k lsA hl)
      | le =>
        rcases hq with ⟨hb1, hq⟩ | ⟨hb1, hq⟩
        · cases hq
          exact lv_icmp_le hx hb hd ht (fun _ => k lsA hl) (fun hn => absurd (of_decide_eq_true hb1) hn)
        · cases hq
          exact lv_icmp_le hx hb hd ht (fun hp => absurd hp (of_decide_eq_false hb1)) (fun _ => k lsA hl)
    · cases hs
  | _ => cases hs
end X_PURE
end
section
/-! facts of the tables; objects and new cells -/
set_option maxRecDepth 100000 in
theorem X_lay0 : u_ws RX0 TX0 8 = X_lp0.filterMap (fun i => lw_tbl[i]?) := by decide +kernel
theorem X_dcl0 : ∀ k, k < 8 → (TX0 k).1 = RX0 := by decide +kernel
theorem X_layg0 : (u_ws RX0 TX0 8).all goodWord = true := by decide +kernel
set_option maxRecDepth 100000 in
theorem X_lay1 : u_ws RX1 TX1 8 = X_lp1.filterMap (fun i => lw_tbl[i]?) := by decide +kernel
theorem X_dcl1 : ∀ k, k < 8 → (TX1 k).1 = RX1 := by decide +kernel
theorem X_layg1 : (u_ws RX1 TX1 8).all goodWord = true := by decide +kernel
set_option maxRecDepth 100000 in
theorem X_lay2 : u_ws RX2 TX2 13 = X_lp2.filterMap (fun i => lw_tbl[i]?) := by decide +kernel
theorem X_dcl2 : ∀ k, k < 13 → (TX2 k).1 = RX2 := by decide +kernel
theorem X_layg2 : (u_ws RX2 TX2 13).all goodWord = true := by decide +kernel
set_option maxRecDepth 100000 in
theorem X_lay3 : u_ws RX3 TX3 7 = X_lp3.filterMap (fun i => lw_tbl[i]?) := by decide +kernel
theorem X_dcl3 : ∀ k, k < 7 → (TX3 k).1 = RX3 := by decide +kernel
theorem X_layg3 : (u_ws RX3 TX3 7).all goodWord = true := by decide +kernel
set_option maxRecDepth 100000 in
theorem X_lay4 : u_ws RX4 TX4 4 = X_lp4.filterMap (fun i => lw_tbl[i]?) := by decide +kernel
theorem X_dcl4 : ∀ k, k < 4 → (TX4 k).1 = RX4 := by decide +kernel
theorem X_layg4 : (u_ws RX4 TX4 4).all goodWord = true := by decide +kernel
set_option maxRecDepth 100000 in
theorem X_lay5 : u_ws RX5 TX5 7 = X_lp5.filterMap (fun i => lw_tbl[i]?) := by decide +kernel
theorem X_dcl5 : ∀ k, k < 7 → (TX5 k).1 = RX5 := by decide +kernel
theorem X_layg5 : (u_ws RX5 TX5 7).all goodWord = true := by decide +kernel
set_option maxRecDepth 100000 in
theorem X_lay6 : u_ws RX6 TX6 3 = X_lp6.filterMap (fun i => lw_tbl[i]?) := by decide +kernel
theorem X_dcl6 : ∀ k, k < 3 → (TX6 k).1 = RX6 := by decide +kernel
theorem X_layg6 : (u_ws RX6 TX6 3).all goodWord = true := by decide +kernel
set_option maxRecDepth 100000 in
theorem X_lay7 : u_ws RX7 TX7 2 = X_lp7.filterMap (fun i => lw_tbl[i]?) := by decide +kernel
theorem X_dcl7 : ∀ k, k < 2 → (TX7 k).1 = RX7 := by decide +kernel
theorem X_layg7 : (u_ws RX7 TX7 2).all goodWord = true := by decide +kernel
set_option maxRecDepth 100000 in
theorem X_lay8 : u_ws RX8 TX8 15 = X_lp8.filterMap (fun i => lw_tbl[i]?) := by decide +kernel
theorem X_dcl8 : ∀ k, k < 15 → (TX8 k).1 = RX8 := by decide +kernel
theorem X_layg8 : (u_ws RX8 TX8 15).all goodWord = true := by decide +kernel
set_option maxRecDepth 100000 in
theorem X_lay9 : u_ws RX9 TX9 7 = X_lp9.filterMap (fun i => lw_tbl[i]?) := by decide +kernel
theorem X_dcl9 : ∀ k, k < 7 → (TX9 k).1 = RX9 := by decide +kernel
theorem X_layg9 : (u_ws RX9 TX9 7).all goodWord = true := by decide +kernel
set_option maxRecDepth 100000 in
theorem X_lay10 : u_ws RX10 TX10 9 = X_lp10.filterMap (fun i => lw_tbl[i]?) := by decide +kernel
theorem X_dcl10 : ∀ k, k < 9 → (TX10 k).1 = RX10 := by decide +kernel
theorem X_layg10 : (u_ws RX10 TX10 9).all goodWord = true := by decide +kernel
set_option maxRecDepth 100000 in
theorem X_lay11 : u_ws RX11 TX11 72 = X_lp11.filterMap (fun i => lw_tbl[i]?) := by decide +kernel
theorem X_dcl11 : ∀ k, k < 72 → (TX11 k).1 = RX11 := by decide +kernel
theorem X_layg11 : (u_ws RX11 TX11 72).all goodWord = true := by decide +kernel
theorem X_lay_in {ws : List Cond} {ps : List Nat} (h : ws = ps.filterMap (fun i => lw_tbl[i]?)) (hg : ws.all goodWord = true) : ∀ w ∈ ws, w ∈ lw_g := by
  intro w hw
  have h1 := List.all_eq_true.mp hg w hw
  rw [h] at hw
  obtain ⟨i, -, hi⟩ := List.mem_filterMap.mp hw
  exact List.mem_filter.mpr ⟨List.mem_of_getElem? hi, h1⟩
/-- a class of the tables: its words, its types, its names -/
def X_clok (ci : Nat) (q : vw_C) : Prop := (∀ w ∈ u_ws q.1 q.2.1 q.2.2, w ∈ lw_g) ∧ (∀ k, k < q.2.2 → parseFieldDescriptor (q.2.1 k).2.2.1 = some (X_ty ci k)) ∧ (∀ a, a < q.2.2 → ∀ b, b < q.2.2 → a ≠ b → (q.2.1 a).2.1 ≠ (q.2.1 b).2.1) ∧ (∀ k, k < q.2.2 → (q.2.1 k).1 = q.1)
theorem X_clook : ∀ (ci : Nat) (q : vw_C), X_cl[ci]? = some q → X_clok ci q := by
  intro ci q h
  match ci, h with
  | 0, h => cases h; exact ⟨X_lay_in X_lay0 X_layg0, tyX0_ok, nmX0, X_dcl0⟩
  | 1, h => cases h; exact ⟨X_lay_in X_lay1 X_layg1, tyX1_ok, nmX1, X_dcl1⟩
  | 2, h => cases h; exact ⟨X_lay_in X_lay2 X_layg2, tyX2_ok, nmX2, X_dcl2⟩
  | 3, h => cases h; exact ⟨X_lay_in X_lay3 X_layg3, tyX3_ok, nmX3, X_dcl3⟩
  | 4, h => cases h; exact ⟨X_lay_in X_lay4 X_layg4, tyX4_ok, nmX4, X_dcl4⟩
  | 5, h => cases h; exact ⟨X_lay_in X_lay5 X_layg5, tyX5_ok, nmX5, X_dcl5⟩
  | 6, h => cases h; exact ⟨X_lay_in X_lay6 X_layg6, tyX6_ok, nmX6, X_dcl6⟩
  | 7, h => cases h; exact ⟨X_lay_in X_lay7 X_layg7, tyX7_ok, nmX7, X_dcl7⟩
  | 8, h => cases h; exact ⟨X_lay_in X_lay8 X_layg8, tyX8_ok, nmX8, X_dcl8⟩
  | 9, h => cases h; exact ⟨X_lay_in X_lay9 X_layg9, tyX9_ok, nmX9, X_dcl9⟩
  | 10, h => cases h; exact ⟨X_lay_in X_lay10 X_layg10, tyX10_ok, nmX10, X_dcl10⟩
  | 11, h => cases h; exact ⟨X_lay_in X_lay11 X_layg11, tyX11_ok, nmX11, X_dcl11⟩
  | ci + 12, h => simp [X_cl] at h
theorem X_nest_two : ∀ w ∈ X_nest, (∃ a i b n d h, w = .fieldLinkNest a i b n d h) ∨ ∃ a i x h, w = .methodLinkNest a i x h := by
  intro w hw
  have h1 := (List.mem_filter.mp hw).2
  unfold X_isNest at h1
  split at h1
  · exact Or.inl ⟨_, _, _, _, _, _, rfl⟩
  · exact Or.inr ⟨_, _, _, _, rfl⟩
  · cases h1
theorem X_K.warm {D : va_G} {cA : FieldType → ClassId} {s U : State} (hW : s.WarmedH U.vm) (h : X_K D cA s) : X_K D cA U := by
  obtain ⟨h1, h2, h3, h4⟩ := h
  refine ⟨fun c q hq => u_Kn_moved hW.alike (h1 c q hq), fun ty hty => ⟨arrOfT_moved hW.alike (h2 ty hty).1, (h2 ty hty).2.moved hW.alike⟩, fun w hw => ?_, h4.moved hW.alike⟩
  rcases X_nest_two w hw with ⟨a, i, b, n, d, hh, rfl⟩ | ⟨a, i, x, hh, rfl⟩
  · exact va_Nw.warmF hW (h3 _ hw)
  · exact va_Nw.warmM hW (h3 _ hw)
theorem X_K.same {D : va_G} {cA : FieldType → ClassId} {s U : State} (hv : s.vm = U.vm) (h : X_K D cA s) : X_K D cA U := by
  obtain ⟨h1, h2, h3, h4⟩ := h
  have hA : s.vm.Alike U.vm := by rw [hv]; exact Vm.Alike.refl _
  refine ⟨fun c q hq => u_Kn_moved hA (h1 c q hq), fun ty hty => ⟨arrOfT_moved hA (h2 ty hty).1, (h2 ty hty).2.moved hA⟩, fun w hw => ?_, h4.moved hA⟩
  rcases X_nest_two w hw with ⟨a, i, b, n, d, hh, rfl⟩ | ⟨a, i, x, hh, rfl⟩
  · exact va_Nw.same rfl hv (h3 _ hw)
  · exact va_Nw.same rfl hv (h3 _ hw)
theorem X_cvs_get {ad : Nat → Nat} {fs : List Value} {k : Nat} {v : Value} (h : fs[k]? = some v) : vp_V (X_cvs ad fs) k = X_cv ad v := by
  unfold X_cvs vp_V
  rw [List.getD_eq_getElem?_getD, List.getElem?_map, h]
  rfl
theorem X_in {i : Int32} {n : Nat} (h : ¬ (i < 0 ∨ n ≤ i.toNatClampNeg)) : i.toNatClampNeg < n := Nat.not_le.mp fun q => h (Or.inr q)
theorem X_ne99 {ci : Nat} {fs : List Value} (h : ci < 12) : (Sum.inr (ci, fs) : X_Cell) ≠ X_no := by
  intro e
  cases e
  omega
theorem X_clt {ci : Nat} {q : vw_C} (h : X_cl[ci]? = some q) : ci < 12 := (List.getElem?_eq_some_iff.mp h).1
/-- a field's word -/
theorem X_fw_spec {o idx : Nat} {ax : Nat × Nat × Nat} {q : vw_C} (h : X_fw o idx ax = true) (hq : X_cl[ax.1]? = some q) : ax.2.1 < q.2.2 ∧
    ((ax.2.2 % 2 = 0 ∧ Cond.fieldLink (X_R o) idx q.1 (q.2.1 ax.2.1).2.1 (q.2.1 ax.2.1).2.2.1 ∈ lw_g) ∨ (¬ ax.2.2 % 2 = 0 ∧ Cond.fieldLinkNest (X_R o) idx q.1 (q.2.1 ax.2.1).2.1 (q.2.1 ax.2.1).2.2.1 "MixfixBench" ∈ X_nest)) := by
  unfold X_fw at h
  rw [hq] at h
  simp only [Bool.and_eq_true, decide_eq_true_eq] at h
  refine ⟨h.1, ?_⟩
  obtain ⟨h1, h2, h3⟩ := X_PF_ok o _ (List.mem_of_getElem? h.2)
  by_cases e : ax.2.2 % 2 = 0
  · refine Or.inl ⟨e, ?_⟩
    have h4 := List.mem_filter.mpr ⟨h1, h2 e⟩
    simp only [X_pfw, hq, e, if_true] at h4
    exact h4
  · refine Or.inr ⟨e, ?_⟩
    have h4 := List.mem_filter.mpr ⟨h1, h3 e⟩
    simp only [X_pfw, hq, e, if_false] at h4
    exact h4
theorem X_fw_cl {o idx : Nat} {ax : Nat × Nat × Nat} (h : X_fw o idx ax = true) : ∃ q, X_cl[ax.1]? = some q := by
  unfold X_fw at h
  split at h
  · exact ⟨_, by assumption⟩
  · cases h
section X_HEAP
variable {p : Program} {l : Launch} {e : Env} {R : Room} {s : State} {m : MethodId} {args : Array Value} {below : List Frame} {meth : Method} {c : Code} {H : Heap} {locs : List Loc} {cells slots : Nat} {Q : State → Prop}
variable {scr : Cell} {D : va_G} {cA : FieldType → ClassId} {b B : Nat} {j : Nat} {lsA : Array Slot} {S : X_S}
theorem X_t_lc {a i : Nat} (h : ∀ q ∈ locs, B ≤ q.base) (ha : B ≤ a) : ∀ q ∈ locs ++ [(⟨a, i⟩ : Loc)], B ≤ q.base := by
  intro q hq
  rcases List.mem_append.mp hq with h1 | h1
  · exact h q h1
  · rw [List.mem_singleton] at h1
    subst h1
    exact ha
set_option maxHeartbeats 1000000 in
theorem X_getfield (C : X_Cx scr D cA p R s m args meth c j) {pc idx n ci : Nat} {ax : Nat × Nat × Nat} {q : Nat} {r fs : List Value} {v : Value} (hc : X_chk j (pc, (.getfield idx, n), ax) = true) (hR : X_Rl b B scr D cA S H)
    (h1 : S.1 q = .inr (ci, fs)) (h2 : ci = ax.1) (h3 : fs[ax.2.1]? = some v)
    (k : W p l e R s m args below meth c H locs cells slots Q (F0 m (pc + 3) lsA (X_cv (X_ad b B) v :: r))) : W p l e R s m args below meth c H locs cells slots Q (F0 m pc lsA (.ref (X_ad b B q) :: r)) := by
  obtain ⟨hx, hb, hr, hml, hown, hts, hlocks, hin, hK, hfr, hlo, hlaw⟩ := C
  have hd := X_chk_dec hc
  subst h2
  have hw : X_fw (X_o j) idx ax = true := by
    unfold X_chk at hc
    simp only [Bool.and_eq_true] at hc
    exact hc.2
  obtain ⟨qq, hqq⟩ := X_fw_cl hw
  obtain ⟨hk, hlink⟩ := X_fw_spec hw hqq
  obtain ⟨hlay, hty, hnm, hdc⟩ := X_clook _ _ hqq
  obtain ⟨rq, g1, cell, q1, q2, q3, q4⟩ := hR.at h1 (X_ne99 (X_clt hqq))
  have hrq : rq = qq := Option.some.inj (g1.symm.trans hqq)
  subst hrq
  obtain ⟨hS, hfc, kC, hkC, hkind⟩ := hK.1 _ _ hqq
  obtain ⟨cf, kf, fi, f, hi, hsl⟩ := hS _ hk
  have hst := (u_facts hfc hkC (u_lays hts hlay hk) hi).1
  have hi' : s.fieldFound? rq.1 (rq.2.1 ax.2.1).2.1 (rq.2.1 ax.2.1).2.2.1 = some (cf, kf, fi, f) := by rw [← hdc _ hk]; exact hi
  have hslot : cell.slots[f.slot]? = some (X_cv (X_ad b B) v) := by
    rw [hsl, q4 _ hk, X_cvs_get h3]
  rcases hlink with ⟨-, hlink⟩ | ⟨-, hlink⟩
  · exact W.getf hx hb hown (hts _ hlink) hi' hst q1 (by rw [q3]; exact fun h => by cases h) hslot rfl rfl hd k
  · exact va_Wgetf hx hb hown (va_Nw.use rfl (hK.2.2.1 _ hlink)) hi' hst q1 (by rw [q3]; exact fun h => by cases h) hslot rfl rfl hd k
set_option maxHeartbeats 1000000 in
theorem X_putfield (C : X_Cx scr D cA p R s m args meth c j) {pc idx n ci : Nat} {ax : Nat × Nat × Nat} {q : Nat} {r fs : List Value} {v : Value} (hc : X_chk j (pc, (.putfield idx, n), ax) = true) (hR : X_Rl b B scr D cA S H) (hq : ∀ q ∈ locs, B ≤ q.base)
    (h1 : S.1 q = .inr (ci, fs)) (h2 : ci = ax.1) (h3 : ax.2.1 < fs.length) (h4 : X_fit (X_ty ax.1 ax.2.1) v = true)
    (k : ∀ H' locs', X_Rl b B scr D cA (X_upd S.1 q (.inr (ci, fs.set ax.2.1 v)), S.2) H' → (∀ q ∈ locs', B ≤ q.base) → W p l e R s m args below meth c H' locs' cells slots Q (F0 m (pc + 3) lsA r)) : W p l e R s m args below meth c H locs cells slots Q (F0 m pc lsA (X_cv (X_ad b B) v :: .ref (X_ad b B q) :: r)) := by
  obtain ⟨hx, hb, hr, hml, hown, hts, hlocks, hin, hK, hfr, hlo, hlaw⟩ := C
  have hd := X_chk_dec hc
  subst h2
  have hw : X_fw (X_o j) idx ax = true ∧ X_fp j (X_o j) ax = true := by
    unfold X_chk at hc
    simp only [Bool.and_eq_true] at hc
    exact hc.2
  obtain ⟨hw, hfp⟩ := hw
  obtain ⟨qq, hqq⟩ := X_fw_cl hw
  obtain ⟨hk, hlink⟩ := X_fw_spec hw hqq
  obtain ⟨hlay, hty, hnm, hdc⟩ := X_clook _ _ hqq
  have hq0 := hR.pos h1 (X_ne99 (X_clt hqq))
  have hlt := hR.lt (q := q) (by rw [h1]; exact X_ne99 (X_clt hqq))
  have hap : ∀ x y, x < qq.2.2 → y < qq.2.2 → x ≠ y → (D.2 ax.1) x ≠ (D.2 ax.1) y := va_apart (own := X_R (X_o j)) (cl := X_cl) (tys := []) (C := qq.1) (T := qq.2.1) (N := qq.2.2) hts hlay (X_ty ax.1) hty hnm ⟨hK.1, fun k q h => by simp at h⟩ hqq
  obtain ⟨rq, g1, cell, q1, q2, q3, q4⟩ := hR.at h1 (X_ne99 (X_clt hqq))
  have hrq : rq = qq := Option.some.inj (g1.symm.trans hqq)
  subst hrq
  obtain ⟨hS, hfc, kC, hkC, hkind⟩ := hK.1 _ _ hqq
  obtain ⟨cf, kf, fi, f, hi, hsl⟩ := hS _ hk
  have hst := (u_facts hfc hkC (u_lays hts hlay hk) hi).1
  have hi' : s.fieldFound? rq.1 (rq.2.1 ax.2.1).2.1 (rq.2.1 ax.2.1).2.2.1 = some (cf, kf, fi, f) := by rw [← hdc _ hk]; exact hi
  obtain ⟨hn, hfit⟩ := X_fit_ok (X_ad b B) h4
  have fin : ∀ (H' : Heap) (i : Nat), H'[X_ad b B q]? = some (cell.setSlot f.slot (X_cv (X_ad b B) v)) → H'.size = H.size → (∀ r, r ≠ X_ad b B q → H'[r]? = H[r]?) → W p l e R s m args below meth c H' (locs ++ [⟨X_ad b B q, i⟩]) cells slots Q (F0 m (pc + 3) lsA r) := by
    intro H' i e1 e2 e3
    rw [hsl] at e1
    refine k H' _ (hR.upd hq0 hlt e2 e3 ?_) (X_t_lc hq (X_ad_ge (by omega)))
    refine ⟨rq, g1, t_OB.to (V := updV (vp_V (X_cvs (X_ad b B) fs)) ax.2.1 (X_cv (X_ad b B) v)) ⟨_, e1, q2, q3, t_set q4 hap hk _⟩ (fun i _ => ?_)⟩
    show _ = vp_V (X_cvs (X_ad b B) (fs.set ax.2.1 v)) i
    rw [vp_updV_set (by unfold X_cvs; rw [List.length_map]; exact h3)]
    unfold X_cvs
    rw [List.map_set]
  have hlay1 := hts _ (hlay _ (u_in_lay hk))
  unfold u_lay at hlay1
  by_cases hf : (rq.2.1 ax.2.1).2.2.2 = true
  · unfold X_fp at hfp
    rw [hqq] at hfp
    simp only [hf, if_true, Bool.and_eq_true, decide_eq_true_eq] at hfp
    obtain ⟨⟨hev, hini⟩, hdecl⟩ := hfp
    rcases hlink with ⟨-, hlink⟩ | ⟨hodd, -⟩
    · rw [if_pos hf] at hlay1
      have hcf : m.cls = cf := by
        obtain ⟨_, _, c', _, _, _, -, -, hf', -, -, -, hown2, -⟩ := Cond.laysFinal_spec hlay1
        have e1 : c' = cf := by have := hi.symm.trans hf'; simp at this; exact this.1.symm
        rw [hdecl] at hown2
        rw [← e1]; exact Option.some.inj (hown.symm.trans hown2)
      have h6 := u_fits hfc hkC hkind (Or.inr hlay1) hi (hty _ hk) hn hfit
      exact W.putFinK hx hb hown (hts _ hlink) hi' hst hcf (hin hini) (by rw [q2]; exact h6) q1 q3 (by rw [hsl]; exact k2_hasslot (q4 _ hk)) rfl rfl hd (fun H' e1 e2 e3 => fin H' _ e1 e2 e3)
    · exact absurd hev hodd
  · rw [if_neg hf] at hlay1
    have h6 := u_store hfc hkC hkind hlay1 hi (hty _ hk) hn hfit
    rcases hlink with ⟨-, hlink⟩ | ⟨-, hlink⟩
    · exact W.putK hx hb (f := f) ⟨hown, hts _ hlink, ⟨_, _, _, hi'⟩, hst⟩ (by rw [q2]; exact h6) q1 q3 (by rw [hsl]; exact k2_hasslot (q4 _ hk)) rfl rfl hd (fun H' e1 e2 e3 => fin H' _ e1 e2 e3)
    · exact va_WputK hx hb (f := f) hown (va_Nw.use rfl (hK.2.2.1 _ hlink)) hi' hst (by rw [q2]; exact h6) q1 q3 (by rw [hsl]; exact k2_hasslot (q4 _ hk)) rfl rfl hd (fun H' e1 e2 e3 => fin H' _ e1 e2 e3)
set_option maxHeartbeats 1000000 in
theorem X_new (C : X_Cx scr D cA p R s m args meth c j) {pc idx n : Nat} {ax : Nat × Nat × Nat} {r fs : List Value} (hc : X_chk j (pc, (.new idx, n), ax) = true) (hR : X_Rl b B scr D cA S H)
    (h1 : X_df[ax.1]? = some fs) (hcells : cells + 1 ≤ R.cells) (hslots : slots + fs.length ≤ R.slots)
    (k : ∀ H', X_Rl b B scr D cA (X_upd S.1 S.2.1 (.inr (ax.1, fs)), S.2.1 + 1, S.2.2 + fs.length) H' → W p l e R s m args below meth c H' locs (cells + 1) (slots + fs.length) Q (F0 m (pc + 3) lsA (.ref (X_ad b B S.2.1) :: r))) : W p l e R s m args below meth c H locs cells slots Q (F0 m pc lsA r) := by
  obtain ⟨hx, hb, hr, hml, hown, hts, hlocks, hin, hK, hfr, hlo, hlaw⟩ := C
  have hd := X_chk_dec hc
  have hw : ∃ q kk, X_cl[ax.1]? = some q ∧ X_wd ax.2.1 (.classLink (X_R (X_o j)) idx q.1) = true ∧ X_wd kk.1 (.instantiable q.1 q.2.2) = true ∧ X_wd kk.2 (.initialized q.1) = true ∧ fs = (List.range q.2.2).map (fun k => defaultValue (X_ty ax.1 k)) ∧ (kk : Nat × Nat) = kk := by
    unfold X_chk at hc
    simp only [Bool.and_eq_true] at hc
    have h := hc.2
    rw [h1] at h
    split at h
    · rename_i q kk fs' e1 e2 e3
      cases e3
      simp only [Bool.and_eq_true, decide_eq_true_eq] at h
      exact ⟨q, kk, e1, h.1.1.1, h.1.1.2, h.1.2, h.2, rfl⟩
    · cases h
  obtain ⟨qq, kk, hqq, w1, w2, w3, hfs, -⟩ := hw
  obtain ⟨hlay, hty, hnm, hdc⟩ := X_clook _ _ hqq
  have hlen : fs.length = qq.2.2 := by rw [hfs, List.length_map, List.length_range]
  have hKn := hK.1 _ _ hqq
  rw [hlen] at hslots
  refine W.newcK hx hb hown (hts _ (X_wd_in w1)) (hts _ (X_wd_in w2)) (hts _ (X_wd_in w3)) rfl hd hcells hslots hKn.2.1 rfl fun H1 kC hkC e1 z1 o1 => ?_
  have hk := k H1 (hR.push z1 o1 ⟨qq, hqq, (u_born (X_ty ax.1) hts hlay hKn hkC e1 hty).to (fun i hi => ?_)⟩)
  · rw [hlen, ← hR.2.1] at hk
    exact hk
  · rw [X_cvs_get (v := defaultValue (X_ty ax.1 i)) (by rw [hfs, List.getElem?_map, List.getElem?_range hi]; rfl)]
    cases X_ty ax.1 i <;> rfl
theorem X_kArr (hK : X_K D cA s) {ty : FieldType} (h : ty ∈ X_tys) : ArrOfT s (cA ty) (X_rty ty) := (hK.2.1 ty h).1
set_option maxHeartbeats 1000000 in
theorem X_newarr (C : X_Cx scr D cA p R s m args meth c j) {pc n : Nat} {at_ : Jvm.ClassFile.ArrayType} {ax : Nat × Nat × Nat} {z : Int32} {r : List Value} {cc : X_Cell} (hc : X_chk j (pc, (.newarray at_, n), ax) = true) (hR : X_Rl b B scr D cA S H)
    (h0 : ¬ (z < 0 ∨ 67108864 < z.toNatClampNeg)) (h1 : X_blank at_ z.toNatClampNeg = some cc) (hcells : cells + 1 ≤ R.cells) (hslots : slots + z.toNatClampNeg ≤ R.slots)
    (k : ∀ H', X_Rl b B scr D cA (X_upd S.1 S.2.1 cc, S.2.1 + 1, S.2.2 + z.toNatClampNeg) H' → W p l e R s m args below meth c H' locs (cells + 1) (slots + z.toNatClampNeg) Q (F0 m (pc + 2) lsA (.ref (X_ad b B S.2.1) :: r))) : W p l e R s m args below meth c H locs cells slots Q (F0 m pc lsA (.int z :: r)) := by
  obtain ⟨hx, hb, hr, hml, hown, hts, hlocks, hin, hK, hfr, hlo, hlaw⟩ := C
  have hd := X_chk_dec hc
  have hw : Cond.arrayClass (newarray.typeOf at_) ∈ lw_g := by
    obtain ⟨w1, w2, w3, w4⟩ := X_w_ap
    cases at_ <;> simp only [X_blank] at h1 <;> first
      | (cases h1; done)
      | exact X_wd_in w1
      | exact X_wd_in w2
      | exact X_wd_in w3
      | exact X_wd_in w4
  have hbytes : z.toNatClampNeg * componentBytes (newarray.typeOf at_) ≤ 536870912 := by
    have h8 : componentBytes (newarray.typeOf at_) ≤ 8 := by cases at_ <;> decide
    have h9 : z.toNatClampNeg ≤ 67108864 := Nat.le_of_not_lt fun q => h0 (Or.inr q)
    exact Nat.le_trans (Nat.mul_le_mul h9 h8) (by decide)
  refine va_newaK hx hb (hts _ hw) rfl hd rfl (fun q => h0 (Or.inl q)) rfl hbytes hcells hslots rfl fun H1 cA' e1 z1 o1 hAr hNm => ?_
  rw [show H.size = X_ad b B S.2.1 from hR.2.1]
  refine k H1 (hR.push z1 o1 ?_)
  cases at_ <;> simp only [X_blank] at h1 <;> cases h1
  · have e := (hK.2.1 .boolean (by decide)).2
    have : cA' = cA .boolean := Option.some.inj (hNm.symm.trans e)
    subst this
    exact e1
  · have e := (hK.2.1 .byte (by decide)).2
    have : cA' = cA .byte := Option.some.inj (hNm.symm.trans e)
    subst this
    exact e1
  · have e := (hK.2.1 .int (by decide)).2
    have : cA' = cA .int := Option.some.inj (hNm.symm.trans e)
    subst this
    exact e1
  · have e := (hK.2.1 .long (by decide)).2
    have : cA' = cA .long := Option.some.inj (hNm.symm.trans e)
    subst this
    exact e1
set_option maxHeartbeats 1000000 in
theorem X_anewarr (C : X_Cx scr D cA p R s m args meth c j) {pc n idx : Nat} {ax : Nat × Nat × Nat} {z : Int32} {r : List Value} (hc : X_chk j (pc, (.anewarray idx, n), ax) = true) (hR : X_Rl b B scr D cA S H)
    (h0 : ¬ (z < 0 ∨ 67108864 < z.toNatClampNeg)) (hcells : cells + 1 ≤ R.cells) (hslots : slots + z.toNatClampNeg ≤ R.slots)
    (k : ∀ H', X_Rl b B scr D cA (X_upd S.1 S.2.1 (.inl (.short, z.toNatClampNeg, .inr (.inr (.inr (.inr fun _ => none))))), S.2.1 + 1, S.2.2 + z.toNatClampNeg) H' → W p l e R s m args below meth c H' locs (cells + 1) (slots + z.toNatClampNeg) Q (F0 m (pc + 3) lsA (.ref (X_ad b B S.2.1) :: r))) : W p l e R s m args below meth c H locs cells slots Q (F0 m pc lsA (.int z :: r)) := by
  obtain ⟨hx, hb, hr, hml, hown, hts, hlocks, hin, hK, hfr, hlo, hlaw⟩ := C
  have hd := X_chk_dec hc
  have hw : X_wd ax.1 (.classLink (X_R (X_o j)) idx RX8) = true := by
    unfold X_chk at hc
    simp only [Bool.and_eq_true] at hc
    exact hc.2
  have hbytes : z.toNatClampNeg * 4 ≤ 536870912 := by
    have h9 : z.toNatClampNeg ≤ 67108864 := Nat.le_of_not_lt fun q => h0 (Or.inr q)
    omega
  refine W.anew hx hb hown (hts _ (X_wd_in hw)) (va_AO.use hK.2.2.2) rfl hd rfl (fun q => h0 (Or.inl q)) hbytes hcells hslots fun cA' kA comp f1 f2 f3 f4 => ?_
  generalize hH1 : H.push ({ cls := cA', slots := Array.replicate z.toNatClampNeg .null, vm := .none } : Cell) = H1
  have z1 : H1.size = H.size + 1 := by rw [← hH1, Array.size_push]
  have e1 : H1[H.size]? = some (arrV cA' z.toNatClampNeg (fun _ => .null)) := by rw [← hH1, Array.getElem?_push_size, ← arrV_new]
  have o1 : ∀ q : Nat, q < H.size → H1[q]? = H[q]? := fun q hq => by rw [← hH1, Array.getElem?_push, if_neg (Nat.ne_of_lt hq)]
  rw [show H.size = X_ad b B S.2.1 from hR.2.1]
  refine k H1 (hR.push z1 o1 ?_)
  obtain ⟨kA2, comp2, -, -, -, k4⟩ := (hK.2.1 .short (by decide)).2
  have : cA' = cA .short := Option.some.inj (f1.symm.trans k4)
  subst this
  exact e1
end X_HEAP
end
section
/-! rows of arrays -/
section X_ARR
variable {p : Program} {l : Launch} {e : Env} {R : Room} {s : State} {m : MethodId} {args : Array Value} {below : List Frame} {meth : Method} {c : Code} {H : Heap} {locs : List Loc} {cells slots : Nat} {Q : State → Prop}
variable {scr : Cell} {D : va_G} {cA : FieldType → ClassId} {b B : Nat} {j : Nat} {lsA : Array Slot} {S : X_S}
theorem X_iald (C : X_Cx scr D cA p R s m args meth c j) {pc n q k0 : Nat} {ax : Nat × Nat × Nat} {f : Nat → Int32} {i : Int32} {r : List Value} (hc : X_chk j (pc, (.iaload, n), ax) = true) (hR : X_Rl b B scr D cA S H)
    (h1 : S.1 q = .inl (.int, k0, .inl f)) (h0 : ¬ (i < 0 ∨ k0 ≤ i.toNatClampNeg))
    (k : W p l e R s m args below meth c H locs cells slots Q (F0 m (pc + 1) lsA (.int (f i.toNatClampNeg) :: r))) : W p l e R s m args below meth c H locs cells slots Q (F0 m pc lsA (.int i :: .ref (X_ad b B q) :: r)) := by
  obtain ⟨hx, hb, hr, hml, hown, hts, hlocks, hin, hK, hfr, hlo, hlaw⟩ := C
  have hd := X_chk_dec hc
  have hat : H[X_ad b B q]? = some (vp_cell (cA .int) (k0, .inl f)) := hR.at h1 X_inl_ne
  exact W.iald (v := .int (f i.toNatClampNeg)) hx hb hat ((hK.2.1 .int (by decide)).1 k0 (fun j => .int (f j))) (fun q => by cases q) (by show ¬ (i < 0 ∨ (arrV _ _ _).slots.size ≤ _); rw [arrV_size]; exact h0) (by show (arrV _ _ _).slots[_]? = _; rw [arrV_read _ _ (X_in h0)]) rfl rfl hd k
theorem X_lald (C : X_Cx scr D cA p R s m args meth c j) {pc n q k0 : Nat} {ax : Nat × Nat × Nat} {f : Nat → Int64} {i : Int32} {r : List Value} (hc : X_chk j (pc, (.laload, n), ax) = true) (hR : X_Rl b B scr D cA S H) 
    (h1 : S.1 q = .inl (.long, k0, .inr (.inl f))) (h0 : ¬ (i < 0 ∨ k0 ≤ i.toNatClampNeg))
    (k : W p l e R s m args below meth c H locs cells slots Q (F0 m (pc + 1) lsA (.long (f i.toNatClampNeg) :: r))) : W p l e R s m args below meth c H locs cells slots Q (F0 m pc lsA (.int i :: .ref (X_ad b B q) :: r)) := by
  obtain ⟨hx, hb, hr, hml, hown, hts, hlocks, hin, hK, hfr, hlo, hlaw⟩ := C
  have hd := X_chk_dec hc
  have hat : H[X_ad b B q]? = some (vp_cell (cA .long) (k0, .inr (.inl f))) := hR.at h1 X_inl_ne
  exact W.lald (v := .long (f i.toNatClampNeg)) hx hb hat ((hK.2.1 .long (by decide)).1 k0 (fun j => .long (f j))) (fun q => by cases q) (by show ¬ (i < 0 ∨ (arrV _ _ _).slots.size ≤ _); rw [arrV_size]; exact h0) (by show (arrV _ _ _).slots[_]? = _; rw [arrV_read _ _ (X_in h0)]) rfl rfl hd k
theorem X_bald (C : X_Cx scr D cA p R s m args meth c j) {pc n q k0 : Nat} {ax : Nat × Nat × Nat} {f : Nat → Int32} {i : Int32} {r : List Value} (hc : X_chk j (pc, (.baload, n), ax) = true) (hR : X_Rl b B scr D cA S H) 
    (h1 : S.1 q = .inl (.byte, k0, .inl f)) (h0 : ¬ (i < 0 ∨ k0 ≤ i.toNatClampNeg))
    (k : W p l e R s m args below meth c H locs cells slots Q (F0 m (pc + 1) lsA (.int (f i.toNatClampNeg) :: r))) : W p l e R s m args below meth c H locs cells slots Q (F0 m pc lsA (.int i :: .ref (X_ad b B q) :: r)) := by
  obtain ⟨hx, hb, hr, hml, hown, hts, hlocks, hin, hK, hfr, hlo, hlaw⟩ := C
  have hd := X_chk_dec hc
  have hat : H[X_ad b B q]? = some (vp_cell (cA .byte) (k0, .inl f)) := hR.at h1 X_inl_ne
  exact W.bald (v := .int (f i.toNatClampNeg)) hx hb hat ((hK.2.1 .byte (by decide)).1 k0 (fun j => .int (f j))) (fun q => by cases q) (by show ¬ (i < 0 ∨ (arrV _ _ _).slots.size ≤ _); rw [arrV_size]; exact h0) (by show (arrV _ _ _).slots[_]? = _; rw [arrV_read _ _ (X_in h0)]) rfl rfl hd k
theorem X_zald (C : X_Cx scr D cA p R s m args meth c j) {pc n q k0 : Nat} {ax : Nat × Nat × Nat} {f : Nat → Int32} {i : Int32} {r : List Value} (hc : X_chk j (pc, (.baload, n), ax) = true) (hR : X_Rl b B scr D cA S H) 
    (h1 : S.1 q = .inl (.boolean, k0, .inl f)) (h0 : ¬ (i < 0 ∨ k0 ≤ i.toNatClampNeg))
    (k : W p l e R s m args below meth c H locs cells slots Q (F0 m (pc + 1) lsA (.int (f i.toNatClampNeg) :: r))) : W p l e R s m args below meth c H locs cells slots Q (F0 m pc lsA (.int i :: .ref (X_ad b B q) :: r)) := by
  obtain ⟨hx, hb, hr, hml, hown, hts, hlocks, hin, hK, hfr, hlo, hlaw⟩ := C
  have hd := X_chk_dec hc
  have hat : H[X_ad b B q]? = some (vp_cell (cA .boolean) (k0, .inl f)) := hR.at h1 X_inl_ne
  exact W.zald (v := .int (f i.toNatClampNeg)) hx hb hat ((hK.2.1 .boolean (by decide)).1 k0 (fun j => .int (f j))) (fun q => by cases q) (by show ¬ (i < 0 ∨ (arrV _ _ _).slots.size ≤ _); rw [arrV_size]; exact h0) (by show (arrV _ _ _).slots[_]? = _; rw [arrV_read _ _ (X_in h0)]) rfl rfl hd k
theorem X_aald (C : X_Cx scr D cA p R s m args meth c j) {pc n q k0 : Nat} {ax : Nat × Nat × Nat} {f : Nat → Option Nat} {i : Int32} {r : List Value} (hc : X_chk j (pc, (.aaload, n), ax) = true) (hR : X_Rl b B scr D cA S H)
    (h1 : S.1 q = .inl (.short, k0, .inr (.inr (.inr (.inr f))))) (h0 : ¬ (i < 0 ∨ k0 ≤ i.toNatClampNeg))
    (k : W p l e R s m args below meth c H locs cells slots Q (F0 m (pc + 1) lsA (X_cv (X_ad b B) (va_rf (f i.toNatClampNeg)) :: r))) : W p l e R s m args below meth c H locs cells slots Q (F0 m pc lsA (.int i :: .ref (X_ad b B q) :: r)) := by
  obtain ⟨hx, hb, hr, hml, hown, hts, hlocks, hin, hK, hfr, hlo, hlaw⟩ := C
  have hd := X_chk_dec hc
  have hat : H[X_ad b B q]? = some (vp_cell (cA .short) (k0, .inr (.inr (.inr (.inr fun j => (f j).map (X_ad b B)))))) := hR.at h1 X_inl_ne
  have ev : X_cv (X_ad b B) (va_rf (f i.toNatClampNeg)) = va_rf ((f i.toNatClampNeg).map (X_ad b B)) := by cases f i.toNatClampNeg <;> rfl
  rw [ev] at k
  exact W.aald (v := va_rf ((f i.toNatClampNeg).map (X_ad b B))) (ty := .object RX8) hx hb hat ((hK.2.1 .short (by decide)).1 k0 (fun j => va_rf ((f j).map (X_ad b B)))) rfl (fun q => by cases q) (by show ¬ (i < 0 ∨ (arrV _ _ _).slots.size ≤ _); rw [arrV_size]; exact h0) (by show (arrV _ _ _).slots[_]? = _; rw [arrV_read _ _ (X_in h0)]) rfl rfl hd k
/-- the script -/
theorem X_sald (C : X_Cx scr D cA p R s m args meth c j) {pc n : Nat} {ax : Nat × Nat × Nat} {sc : X_Sc} {i : Int32} {r : List Value} (hsc : scr.slots.size = sc.1 ∧ ∀ j, j < sc.1 → scr.slots[j]? = some (.int (sc.2 j))) (hc : X_chk j (pc, (.iaload, n), ax) = true) (hax : ax.1 ≠ 0) (hR : X_Rl b B scr D cA S H)
    (h0 : ¬ (i < 0 ∨ sc.1 ≤ i.toNatClampNeg))
    (k : W p l e R s m args below meth c H locs cells slots Q (F0 m (pc + 1) lsA (.int (sc.2 i.toNatClampNeg) :: r))) : W p l e R s m args below meth c H locs cells slots Q (F0 m pc lsA (.int i :: .ref b :: r)) := by
  obtain ⟨hx, hb, hr, hml, hown, hts, hlocks, hin, hK, hfr, hlo, hlaw⟩ := C
  have hd := X_chk_dec hc
  have hj : j = X_lawj := by
    unfold X_chk at hc
    simp only [Bool.and_eq_true, Bool.or_eq_true, decide_eq_true_eq] at hc
    exact hc.2.resolve_left hax
  obtain ⟨ha1, ha2⟩ := hlaw hj
  exact W.iald (v := .int (sc.2 i.toNatClampNeg)) hx hb hR.2.2.2.1 ha1 ha2 (by rw [hsc.1]; exact h0) (hsc.2 _ (X_in h0)) rfl rfl hd k
theorem X_slen (C : X_Cx scr D cA p R s m args meth c j) {pc n : Nat} {ax : Nat × Nat × Nat} {sc : X_Sc} {r : List Value} (hsc : scr.slots.size = sc.1 ∧ ∀ j, j < sc.1 → scr.slots[j]? = some (.int (sc.2 j))) (hc : X_chk j (pc, (.arraylength, n), ax) = true) (hax : ax.1 ≠ 0) (hR : X_Rl b B scr D cA S H)
    (k : W p l e R s m args below meth c H locs cells slots Q (F0 m (pc + 1) lsA (.int (Int32.ofNat sc.1) :: r))) : W p l e R s m args below meth c H locs cells slots Q (F0 m pc lsA (.ref b :: r)) := by
  obtain ⟨hx, hb, hr, hml, hown, hts, hlocks, hin, hK, hfr, hlo, hlaw⟩ := C
  have hd := X_chk_dec hc
  have hj : j = X_lawj := by
    unfold X_chk at hc
    simp only [Bool.and_eq_true, Bool.or_eq_true, decide_eq_true_eq] at hc
    exact hc.2.resolve_left hax
  obtain ⟨ha1, ha2⟩ := hlaw hj
  exact W.alen hx hb hR.2.2.2.1 ha1 (by rw [hsc.1]) rfl rfl hd k
theorem X_iast (C : X_Cx scr D cA p R s m args meth c j) {pc n q k0 : Nat} {ax : Nat × Nat × Nat} {f : Nat → Int32} {i : Int32} {x : Int32} {r : List Value} (hc : X_chk j (pc, (.iastore, n), ax) = true) (hR : X_Rl b B scr D cA S H) (hq : ∀ q ∈ locs, B ≤ q.base)
    (h1 : S.1 q = .inl (.int, k0, .inl f)) (h2 : ¬ (i < 0 ∨ k0 ≤ i.toNatClampNeg))
    (k : ∀ H' locs', X_Rl b B scr D cA (X_upd S.1 q (.inl (.int, k0, .inl (upd f i.toNatClampNeg x))), S.2) H' → (∀ q ∈ locs', B ≤ q.base) → W p l e R s m args below meth c H' locs' cells slots Q (F0 m (pc + 1) lsA r)) : W p l e R s m args below meth c H locs cells slots Q (F0 m pc lsA (.int x :: .int i :: .ref (X_ad b B q) :: r)) := by
  obtain ⟨hx, hb, hr, hml, hown, hts, hlocks, hin, hK, hfr, hlo, hlaw⟩ := C
  have hd := X_chk_dec hc
  have hq0 : 0 < q := hR.pos h1 X_inl_ne
  have hat : H[X_ad b B q]? = some (vp_cell (cA .int) (k0, .inl f)) := hR.at h1 X_inl_ne
  refine W.iast hx hb hat ((hK.2.1 .int (by decide)).1 k0 (fun j => .int (f j))) (fun q => by cases q) (by show ¬ (i < 0 ∨ (arrV _ _ _).slots.size ≤ _); rw [arrV_size]; exact h2) rfl rfl hd fun H1 e z oq => ?_
  refine k H1 _ (hR.upd hq0 (hR.lt (by rw [h1]; exact X_inl_ne)) z oq ?_) (X_t_lc hq (X_ad_ge (by omega)))
  show H1[X_ad b B q]? = some (vp_cell _ _)
  rw [e]
  show some ((vp_cell _ _).setSlot _ _) = some (vp_cell (cA .int) (k0, .inl (upd f i.toNatClampNeg x)))
  rw [vp_cell_i, vp_cell_i, arrV_store]
  congr 2
  funext z
  by_cases hz : z = i.toNatClampNeg
  · subst hz
    simp [updV, upd]
    try rfl
  · simp [updV, upd, hz]
theorem X_last (C : X_Cx scr D cA p R s m args meth c j) {pc n q k0 : Nat} {ax : Nat × Nat × Nat} {f : Nat → Int64} {i : Int32} {x : Int64} {r : List Value} (hc : X_chk j (pc, (.lastore, n), ax) = true) (hR : X_Rl b B scr D cA S H) (hq : ∀ q ∈ locs, B ≤ q.base)
    (h1 : S.1 q = .inl (.long, k0, .inr (.inl f))) (h2 : ¬ (i < 0 ∨ k0 ≤ i.toNatClampNeg))
    (k : ∀ H' locs', X_Rl b B scr D cA (X_upd S.1 q (.inl (.long, k0, .inr (.inl (vp_updL f i.toNatClampNeg x)))), S.2) H' → (∀ q ∈ locs', B ≤ q.base) → W p l e R s m args below meth c H' locs' cells slots Q (F0 m (pc + 1) lsA r)) : W p l e R s m args below meth c H locs cells slots Q (F0 m pc lsA (.long x :: .int i :: .ref (X_ad b B q) :: r)) := by
  obtain ⟨hx, hb, hr, hml, hown, hts, hlocks, hin, hK, hfr, hlo, hlaw⟩ := C
  have hd := X_chk_dec hc
  have hq0 : 0 < q := hR.pos h1 X_inl_ne
  have hat : H[X_ad b B q]? = some (vp_cell (cA .long) (k0, .inr (.inl f))) := hR.at h1 X_inl_ne
  refine W.last hx hb hat ((hK.2.1 .long (by decide)).1 k0 (fun j => .long (f j))) (fun q => by cases q) (by show ¬ (i < 0 ∨ (arrV _ _ _).slots.size ≤ _); rw [arrV_size]; exact h2) rfl rfl hd fun H1 e z oq => ?_
  refine k H1 _ (hR.upd hq0 (hR.lt (by rw [h1]; exact X_inl_ne)) z oq ?_) (X_t_lc hq (X_ad_ge (by omega)))
  show H1[X_ad b B q]? = some (vp_cell _ _)
  rw [e]
  show some ((vp_cell _ _).setSlot _ _) = some (vp_cell (cA .long) (k0, .inr (.inl (vp_updL f i.toNatClampNeg x))))
  rw [vp_cell_l, vp_cell_l, arrV_store]
  congr 2
  funext z
  by_cases hz : z = i.toNatClampNeg
  · subst hz
    simp [updV, vp_updL]
    try rfl
  · simp [updV, vp_updL, hz]
theorem X_bast (C : X_Cx scr D cA p R s m args meth c j) {pc n q k0 : Nat} {ax : Nat × Nat × Nat} {f : Nat → Int32} {i : Int32} {x : Int32} {r : List Value} (hc : X_chk j (pc, (.bastore, n), ax) = true) (hR : X_Rl b B scr D cA S H) (hq : ∀ q ∈ locs, B ≤ q.base)
    (h1 : S.1 q = .inl (.byte, k0, .inl f)) (h2 : ¬ (i < 0 ∨ k0 ≤ i.toNatClampNeg))
    (k : ∀ H' locs', X_Rl b B scr D cA (X_upd S.1 q (.inl (.byte, k0, .inl (upd f i.toNatClampNeg (vp_nar .byte x)))), S.2) H' → (∀ q ∈ locs', B ≤ q.base) → W p l e R s m args below meth c H' locs' cells slots Q (F0 m (pc + 1) lsA r)) : W p l e R s m args below meth c H locs cells slots Q (F0 m pc lsA (.int x :: .int i :: .ref (X_ad b B q) :: r)) := by
  obtain ⟨hx, hb, hr, hml, hown, hts, hlocks, hin, hK, hfr, hlo, hlaw⟩ := C
  have hd := X_chk_dec hc
  have hq0 : 0 < q := hR.pos h1 X_inl_ne
  have hat : H[X_ad b B q]? = some (vp_cell (cA .byte) (k0, .inl f)) := hR.at h1 X_inl_ne
  refine W.bast hx hb hat ((hK.2.1 .byte (by decide)).1 k0 (fun j => .int (f j))) (fun q => by cases q) (by show ¬ (i < 0 ∨ (arrV _ _ _).slots.size ≤ _); rw [arrV_size]; exact h2) rfl rfl hd fun H1 e z oq => ?_
  refine k H1 _ (hR.upd hq0 (hR.lt (by rw [h1]; exact X_inl_ne)) z oq ?_) (X_t_lc hq (X_ad_ge (by omega)))
  show H1[X_ad b B q]? = some (vp_cell _ _)
  rw [e]
  show some ((vp_cell _ _).setSlot _ _) = some (vp_cell (cA .byte) (k0, .inl (upd f i.toNatClampNeg (vp_nar .byte x))))
  rw [vp_cell_i, vp_cell_i, arrV_store]
  congr 2
  funext z
  by_cases hz : z = i.toNatClampNeg
  · subst hz
    simp [updV, upd, vp_nar]
    try rfl
  · simp [updV, upd, vp_nar, hz]
theorem X_zast (C : X_Cx scr D cA p R s m args meth c j) {pc n q k0 : Nat} {ax : Nat × Nat × Nat} {f : Nat → Int32} {i : Int32} {x : Int32} {r : List Value} (hc : X_chk j (pc, (.bastore, n), ax) = true) (hR : X_Rl b B scr D cA S H) (hq : ∀ q ∈ locs, B ≤ q.base)
    (h1 : S.1 q = .inl (.boolean, k0, .inl f)) (h2 : ¬ (i < 0 ∨ k0 ≤ i.toNatClampNeg))
    (k : ∀ H' locs', X_Rl b B scr D cA (X_upd S.1 q (.inl (.boolean, k0, .inl (upd f i.toNatClampNeg (vp_nar .boolean x)))), S.2) H' → (∀ q ∈ locs', B ≤ q.base) → W p l e R s m args below meth c H' locs' cells slots Q (F0 m (pc + 1) lsA r)) : W p l e R s m args below meth c H locs cells slots Q (F0 m pc lsA (.int x :: .int i :: .ref (X_ad b B q) :: r)) := by
  obtain ⟨hx, hb, hr, hml, hown, hts, hlocks, hin, hK, hfr, hlo, hlaw⟩ := C
  have hd := X_chk_dec hc
  have hq0 : 0 < q := hR.pos h1 X_inl_ne
  have hat : H[X_ad b B q]? = some (vp_cell (cA .boolean) (k0, .inl f)) := hR.at h1 X_inl_ne
  refine W.zast hx hb hat ((hK.2.1 .boolean (by decide)).1 k0 (fun j => .int (f j))) (fun q => by cases q) (by show ¬ (i < 0 ∨ (arrV _ _ _).slots.size ≤ _); rw [arrV_size]; exact h2) rfl rfl hd fun H1 e z oq => ?_
  refine k H1 _ (hR.upd hq0 (hR.lt (by rw [h1]; exact X_inl_ne)) z oq ?_) (X_t_lc hq (X_ad_ge (by omega)))
  show H1[X_ad b B q]? = some (vp_cell _ _)
  rw [e]
  show some ((vp_cell _ _).setSlot _ _) = some (vp_cell (cA .boolean) (k0, .inl (upd f i.toNatClampNeg (vp_nar .boolean x))))
  rw [vp_cell_i, vp_cell_i, arrV_store]
  congr 2
  funext z
  by_cases hz : z = i.toNatClampNeg
  · subst hz
    simp [updV, upd, vp_nar]
    try rfl
  · simp [updV, upd, vp_nar, hz]
theorem X_aast (C : X_Cx scr D cA p R s m args meth c j) {pc n q k0 v ci : Nat} {ax : Nat × Nat × Nat} {f : Nat → Option Nat} {i : Int32} {r fs : List Value} (hc : X_chk j (pc, (.aastore, n), ax) = true) (hR : X_Rl b B scr D cA S H) (hq : ∀ q ∈ locs, B ≤ q.base)
    (h1 : S.1 q = .inl (.short, k0, .inr (.inr (.inr (.inr f))))) (h3 : S.1 v = .inr (ci, fs)) (h0 : ¬ (ci ≠ X_wci ∨ i < 0 ∨ k0 ≤ i.toNatClampNeg))
    (k : ∀ H' locs', X_Rl b B scr D cA (X_upd S.1 q (.inl (.short, k0, .inr (.inr (.inr (.inr (va_up f i.toNatClampNeg (some v))))))), S.2) H' → (∀ q ∈ locs', B ≤ q.base) → W p l e R s m args below meth c H' locs' cells slots Q (F0 m (pc + 1) lsA r)) : W p l e R s m args below meth c H locs cells slots Q (F0 m pc lsA (.ref (X_ad b B v) :: .int i :: .ref (X_ad b B q) :: r)) := by
  obtain ⟨hx, hb, hr, hml, hown, hts, hlocks, hin, hK, hfr, hlo, hlaw⟩ := C
  have hd := X_chk_dec hc
  have hq0 : 0 < q := hR.pos h1 X_inl_ne
  have h2 : ¬ (i < 0 ∨ k0 ≤ i.toNatClampNeg) := fun z => h0 (Or.inr z)
  have hci : ci = X_wci := Decidable.byContradiction fun z => h0 (Or.inl z)
  subst hci
  have hat : H[X_ad b B q]? = some (vp_cell (cA .short) (k0, .inr (.inr (.inr (.inr fun j => (f j).map (X_ad b B)))))) := hR.at h1 X_inl_ne
  obtain ⟨rq, g1, cellV, q1, q2, q3, -⟩ := hR.at h3 (X_ne99 (by decide))
  have hrq : rq = (RX8, TX8, 15) := Option.some.inj (g1.symm.trans rfl)
  subst hrq
  have hcls := (hK.1 _ _ g1).2
  obtain ⟨kA, comp, k1, k2, k3, -⟩ := (hK.2.1 .short (by decide)).2
  have hcomp : comp = D.1 X_wci := Option.some.inj (k3.symm.trans hcls.1)
  subst hcomp
  obtain ⟨kC, hkC, -⟩ := hcls.2
  refine W.aast hx hb hat (fun q h => by cases h) (fun h => by cases h) k1 k2 rfl hkC ⟨fun z => h2 (Or.inl z), by show _ < (arrV _ _ _).slots.size; rw [arrV_size]; exact X_in h2⟩ q1 (fun q h => by rw [q3] at h; cases h) (by rw [q2]; exact hkC) (by rw [q2]; exact va_assign hcls) rfl rfl hd fun H1 e z oq => ?_
  refine k H1 _ (hR.upd hq0 (hR.lt (by rw [h1]; exact X_inl_ne)) z oq ?_) (X_t_lc hq (X_ad_ge (by omega)))
  show H1[X_ad b B q]? = some (vp_cell _ _)
  rw [e]
  show some ((vp_cell _ _).setSlot _ _) = some (vp_cell (cA .short) (k0, .inr (.inr (.inr (.inr fun j => (va_up f i.toNatClampNeg (some v) j).map (X_ad b B))))))
  rw [vp_cell_q, vp_cell_q, arrV_store]
  congr 2
  funext z
  by_cases hz : z = i.toNatClampNeg
  · subst hz
    simp [updV, va_up, va_rf]
  · simp [updV, va_up, hz]
set_option maxHeartbeats 1000000 in
theorem X_acopy (C : X_Cx scr D cA p R s m args meth c j) {pc idx n a a0 n0 n1 : Nat} {ax : Nat × Nat × Nat} {f g : Nat → Int64} {sp dp z : Int32} {r : List Value} (hc : X_chk j (pc, (.invokestatic idx, n), ax) = true) (hax : ax.1 = 9998) (hR : X_Rl b B scr D cA S H) (hq : ∀ q ∈ locs, B ≤ q.base) (hsz : lsA.size = X_nL j)
    (h1 : S.1 a0 = .inl (.long, n0, .inr (.inl f))) (h2 : S.1 a = .inl (.long, n1, .inr (.inl g))) (hs1 : ¬ sp < 0) (hs2 : ¬ dp < 0) (hs3 : ¬ z < 0) (h4 : sp.toNatClampNeg + z.toNatClampNeg ≤ n0) (h5 : dp.toNatClampNeg + z.toNatClampNeg ≤ n1) (hrs : (r.map fun v => v.category).sum ≤ 8)
    (k : ∀ H' locs', X_Rl b B scr D cA (X_upd S.1 a (.inl (.long, n1, .inr (.inl (va_cpy f g sp.toNatClampNeg dp.toNatClampNeg z.toNatClampNeg)))), S.2) H' → (∀ q ∈ locs', B ≤ q.base) → W p l e R s m args below meth c H' locs' cells slots Q (F0 m (pc + 3) lsA r)) :
    W p l e R s m args below meth c H locs cells slots Q (F0 m pc lsA (.int z :: .int dp :: .ref (X_ad b B a) :: .int sp :: .ref (X_ad b B a0) :: r)) := by
  obtain ⟨hx, hb, hr, hml, hown, hts, hlocks, hin, hK, hfr, hlo, hlaw⟩ := C
  have hd := X_chk_dec hc
  have hw : X_wd ax.2.1 (.methodLink (X_R (X_o j)) idx arraycopyName) = true ∧ 1 ≤ X_fr j ∧ 8 + (nativeFrameWords "java/lang/System" "arraycopy" 5 + 11) ≤ X_lo j := by
    unfold X_chk at hc
    simp only [Bool.and_eq_true, hax, if_true, decide_eq_true_eq] at hc
    obtain ⟨-, ⟨w1, w5⟩, w6⟩ := hc
    exact ⟨w1, w5, w6⟩
  obtain ⟨w1, w5, w6⟩ := hw
  have w2 := X_w_an
  have w3 := X_w_as
  have w4 := X_w_ai
  have ha0 : 0 < a := hR.pos h2 X_inl_ne
  have hc0 : H[X_ad b B a0]? = some (vp_cell (cA .long) (n0, .inr (.inl f))) := hR.at h1 X_inl_ne
  have hc1 : H[X_ad b B a]? = some (vp_cell (cA .long) (n1, .inr (.inl g))) := hR.at h2 X_inl_ne
  have nn : ∀ z : Int32, ¬ z < 0 → z.toInt = (z.toNatClampNeg : Int) := by
    intro z hz
    have hz0 : (0 : Int) ≤ z.toInt := by
      have := Int32.not_lt.mp hz
      simpa using Int32.le_iff_toInt_le.mp this
    show z.toInt = ((z.toInt.toNat : Nat) : Int)
    omega
  intro T hT X
  obtain ⟨-, k0, hk0, cm0, hkk0⟩ := (hK.2.1 .long (by decide)).1 n0 (fun j => .long (f j))
  obtain ⟨-, k1, hk1, cm1, hkk1⟩ := (hK.2.1 .long (by decide)).1 n1 (fun j => .long (g j))
  obtain ⟨vm', X', step⟩ := X.arraycopy hx hown (hts _ (X_wd_in w1)) (hts _ (X_wd_in w2)) (hts _ (X_wd_in w3)) (hts _ (X_wd_in w4)) (src := X_ad b B a0) (dst := X_ad b B a) (cs := vp_cell (cA .long) (n0, .inr (.inl f))) (cd := vp_cell (cA .long) (n1, .inr (.inl g))) (srcPos := sp) (destPos := dp) (n := z) (by rw [hT]; exact hc0) (by rw [hT]; exact hc1)
    (fun _ h => by cases h) (fun _ h => by cases h) (fun h => by cases h) (fun h => by cases h) hk0 hk1 hkk0 hkk1 (by simp [X_rty, refKind]) hs1 hs2 hs3
    (by rw [nn sp hs1, nn z hs3]; show ¬ _ > ((arrV (cA .long) n0 (fun j => .long (f j))).slots.size : Int); rw [arrV_size]; omega)
    (by rw [nn dp hs2, nn z hs3]; show ¬ _ > ((arrV (cA .long) n1 (fun j => .long (g j))).slots.size : Int); rw [arrV_size]; omega)
    (fun vm₁ _ i hi => by
      have e : (vp_cell (cA .long) (n0, .inr (.inl f))).slots.getD (sp.toNatClampNeg + i) .null = .long (f (sp.toNatClampNeg + i)) := by
        show (arrV (cA .long) n0 (fun j => .long (f j))).slots.getD _ _ = _
        rw [Array.getD_eq_getD_getElem?, arrV_read _ _ (by omega)]
        rfl
      refine ⟨?_, ?_⟩
      · rw [e]
        rfl
      · rw [e]
        exact trivial)
    (g := F0 m pc lsA (.int z :: .int dp :: .ref (X_ad b B a) :: .int sp :: .ref (X_ad b B a0) :: r)) rfl (by rw [hml]; exact hsz) (rest := r) rfl (by rw [hb]; exact hd) (Nat.le_trans w5 hfr) (by show 2 * 0 + _ + _ ≤ _; omega)
  have e1 : copied (vp_cell (cA .long) (n0, .inr (.inl f))) (vp_cell (cA .long) (n1, .inr (.inl g))) sp dp z = vp_cell (cA .long) (n1, .inr (.inl (va_cpy f g sp.toNatClampNeg dp.toNatClampNeg z.toNatClampNeg))) := va_copied (fun z => .long z) (cA .long) (cA .long) f g h4
  rw [e1] at X' step
  have hlt : X_ad b B a < H.size := (Array.getElem?_eq_some_iff.mp hc1).1
  have hheap : ((T.setVm vm').setCell (X_ad b B a) (vp_cell (cA .long) (n1, .inr (.inl (va_cpy f g sp.toNatClampNeg dp.toNatClampNeg z.toNatClampNeg))))).heap = H.setIfInBounds (X_ad b B a) (vp_cell (cA .long) (n1, .inr (.inl (va_cpy f g sp.toNatClampNeg dp.toNatClampNeg z.toNatClampNeg)))) := by rw [← hT]; rfl
  obtain ⟨t, a1, b1⟩ := k _ _ (hR.upd ha0 (hR.lt (by rw [h2]; exact X_inl_ne)) (by simp) (fun q hq => by simp [Array.getElem?_setIfInBounds, Ne.symm hq]) (show (H.setIfInBounds (X_ad b B a) (vp_cell (cA .long) (n1, .inr (.inl (va_cpy f g sp.toNatClampNeg dp.toNatClampNeg z.toNatClampNeg)))))[X_ad b B a]? = some _ by simp [Array.getElem?_setIfInBounds, hlt]; rfl))
    (fun q hq2 => by
      rcases List.mem_append.mp hq2 with h | h
      · exact hq q h
      · obtain ⟨z, -, hz⟩ := List.mem_map.mp h
        rw [← hz]
        exact X_ad_ge (b := b) (B := B) (by omega)) _ hheap X'
  exact ⟨t, step t a1, b1⟩
end X_ARR
end
section
/-! one step of the heap's instructions; calls; the whole walk -/
theorem X_S_up {sc : X_Sc} {row : X_Row} {st st' : List Value} {S S' : X_S} {pc' : Nat} (h : X_hstep sc row st S = some (pc', st', S')) : S.2.1 ≤ S'.2.1 ∧ S.2.2 ≤ S'.2.2 := by
  obtain ⟨pc, ⟨i, n⟩, ax⟩ := row
  unfold X_hstep at h
  repeat' split at h
  all_goals first
    | (cases h; done)
    | (cases h; exact ⟨Nat.le_refl _, Nat.le_refl _⟩)
    | (cases h; exact ⟨Nat.le_add_right _ _, Nat.le_add_right _ _⟩)
section X_HS
variable {p : Program} {l : Launch} {e : Env} {R : Room} {s : State} {m : MethodId} {args : Array Value} {below : List Frame} {meth : Method} {c : Code} {H : Heap} {locs : List Loc} {cells slots : Nat} {Q : State → Prop}
variable {sc : X_Sc} {scr : Cell} {D : va_G} {cA : FieldType → ClassId} {b B : Nat} {j : Nat} {lsA : Array Slot} {S : X_S}
set_option maxHeartbeats 4000000 in
theorem X_heap (hsc : scr.slots.size = sc.1 ∧ ∀ j, j < sc.1 → scr.slots[j]? = some (.int (sc.2 j))) (C : X_Cx scr D cA p R s m args meth c j) {row : X_Row} {st st' : List Value} {S' : X_S} {pc' z0 l0 : Nat} (hc : X_chk j row = true) (hR : X_Rl b B scr D cA S H) (hq : ∀ q ∈ locs, B ≤ q.base) (hsz : lsA.size = X_nL j)
    (hs : X_hstep sc row st S = some (pc', st', S')) (hz : z0 ≤ S.2.1) (hl0 : l0 ≤ S.2.2) (hfit : S'.2.1 - z0 ≤ R.cells ∧ S'.2.2 - l0 ≤ R.slots)
    (k : ∀ H' locs', X_Rl b B scr D cA S' H' → (∀ q ∈ locs', B ≤ q.base) → W p l e R s m args below meth c H' locs' (S'.2.1 - z0) (S'.2.2 - l0) Q (F0 m pc' lsA (X_cvs (X_ad b B) st'))) :
    W p l e R s m args below meth c H locs (S.2.1 - z0) (S.2.2 - l0) Q (F0 m row.1 lsA (X_cvs (X_ad b B) st)) := by
  obtain ⟨pc, ⟨i, n⟩, ax⟩ := row
  cases i with
  | getfield idx =>
    simp only [X_hstep] at hs
    split at hs
    · rename_i q r
      split at hs
      · rename_i ci fs h1
        split at hs
        · rename_i h2
          split at hs
          · rename_i v h3
            cases hs
            exact X_getfield C hc hR h1 h2 h3 (k H locs hR hq)
          · cases hs
        · cases hs
      · cases hs
    · cases hs
  | putfield idx =>
    simp only [X_hstep] at hs
    split at hs
    · rename_i v q r
      split at hs
      · rename_i ci fs h1
        split at hs
        · rename_i h2
          cases hs
          exact X_putfield C hc hR hq h1 h2.1 h2.2.1 h2.2.2 k
        · cases hs
      · cases hs
    · cases hs
  | new idx =>
    simp only [X_hstep] at hs
    split at hs
    · rename_i fs h1
      cases hs
      have f1 : S.2.1 + 1 - z0 ≤ R.cells := hfit.1
      have f2 : S.2.2 + fs.length - l0 ≤ R.slots := hfit.2
      refine X_new C hc hR h1 (by omega) (by omega) (fun H' hR' => ?_)
      have hk := k H' locs hR' hq
      rw [show S.2.1 - z0 + 1 = S.2.1 + 1 - z0 by omega, show S.2.2 - l0 + fs.length = S.2.2 + fs.length - l0 by omega]
      exact hk
    · cases hs
  | newarray at_ =>
    simp only [X_hstep] at hs
    split at hs
    · rename_i z r
      split at hs
      · cases hs
      · rename_i h0
        split at hs
        · rename_i cc h1
          cases hs
          have f1 : S.2.1 + 1 - z0 ≤ R.cells := hfit.1
          have f2 : S.2.2 + z.toNatClampNeg - l0 ≤ R.slots := hfit.2
          refine X_newarr C hc hR h0 h1 (by omega) (by omega) (fun H' hR' => ?_)
          have hk := k H' locs hR' hq
          rw [show S.2.1 - z0 + 1 = S.2.1 + 1 - z0 by omega, show S.2.2 - l0 + z.toNatClampNeg = S.2.2 + z.toNatClampNeg - l0 by omega]
          exact hk
        · cases hs
    · cases hs
  | anewarray idx =>
    simp only [X_hstep] at hs
    split at hs
    · rename_i z r
      split at hs
      · cases hs
      · rename_i h0
        cases hs
        have f1 : S.2.1 + 1 - z0 ≤ R.cells := hfit.1
        have f2 : S.2.2 + z.toNatClampNeg - l0 ≤ R.slots := hfit.2
        refine X_anewarr C hc hR h0 (by omega) (by omega) (fun H' hR' => ?_)
        have hk := k H' locs hR' hq
        rw [show S.2.1 - z0 + 1 = S.2.1 + 1 - z0 by omega, show S.2.2 - l0 + z.toNatClampNeg = S.2.2 + z.toNatClampNeg - l0 by omega]
        exact hk
    · cases hs
  | iaload =>
    simp only [X_hstep] at hs
    split at hs
    · rename_i i q r
      split at hs
      · split at hs
        · rename_i k0 f h1
          split at hs
          · cases hs
          · rename_i h0
            cases hs
            exact X_iald C hc hR h1 h0 (k H locs hR hq)
        · cases hs
      · rename_i hax
        split at hs
        · rename_i hq0
          split at hs
          · cases hs
          · rename_i h0
            cases hs
            subst hq0
            exact X_sald C hsc hc hax hR h0 (k H locs hR hq)
        · cases hs
    · cases hs
  | laload =>
    simp only [X_hstep] at hs
    split at hs
    · rename_i i q r
      split at hs
      · rename_i k0 f h1
        split at hs
        · cases hs
        · rename_i h0
          cases hs
          exact X_lald C hc hR h1 h0 (k H locs hR hq)
      · cases hs
    · cases hs
  | baload =>
    simp only [X_hstep] at hs
    split at hs
    · rename_i i q r
      split at hs
      · rename_i k0 f h1
        split at hs
        · cases hs
        · rename_i h0
          cases hs
          exact X_bald C hc hR h1 h0 (k H locs hR hq)
      · rename_i k0 f h1
        split at hs
        · cases hs
        · rename_i h0
          cases hs
          exact X_zald C hc hR h1 h0 (k H locs hR hq)
      · cases hs
    · cases hs
  | aaload =>
    simp only [X_hstep] at hs
    split at hs
    · rename_i i q r
      split at hs
      · rename_i k0 f h1
        split at hs
        · cases hs
        · rename_i h0
          cases hs
          exact X_aald C hc hR h1 h0 (k H locs hR hq)
      · cases hs
    · cases hs
  | iastore =>
    simp only [X_hstep] at hs
    split at hs
    · rename_i x i q r
      split at hs
      · rename_i k0 f h1
        split at hs
        · cases hs
        · rename_i h0
          cases hs
          exact X_iast C hc hR hq h1 h0 k
      · cases hs
    · cases hs
  | lastore =>
    simp only [X_hstep] at hs
    split at hs
    · rename_i x i q r
      split at hs
      · rename_i k0 f h1
        split at hs
        · cases hs
        · rename_i h0
          cases hs
          exact X_last C hc hR hq h1 h0 k
      · cases hs
    · cases hs
  | bastore =>
    simp only [X_hstep] at hs
    split at hs
    · rename_i x i q r
      split at hs
      · rename_i k0 f h1
        split at hs
        · cases hs
        · rename_i h0
          cases hs
          exact X_bast C hc hR hq h1 h0 k
      · rename_i k0 f h1
        split at hs
        · cases hs
        · rename_i h0
          cases hs
          exact X_zast C hc hR hq h1 h0 k
      · cases hs
    · cases hs
  | aastore =>
    simp only [X_hstep] at hs
    split at hs
    · rename_i v i q r
      split at hs
      · rename_i k0 f h1
        split at hs
        · rename_i ci fs h3
          split at hs
          · cases hs
          · rename_i h0
            cases hs
            exact X_aast C hc hR hq h1 h3 h0 k
        · cases hs
      · cases hs
    · cases hs
  | arraylength =>
    simp only [X_hstep] at hs
    split at hs
    · rename_i q r
      split at hs
      · rename_i h0
        cases hs
        obtain ⟨rfl, hax⟩ := h0
        exact X_slen C hsc hc hax hR (k H locs hR hq)
      · cases hs
    · cases hs
  | invokespecial idx =>
    simp only [X_hstep] at hs
    split at hs
    · rename_i q r
      split at hs
      · rename_i h0
        have h8 := h0.2
        rw [← X_cvs_cat (X_ad b B)] at h8
        cases hs
        have hd := X_chk_dec hc
        obtain ⟨hx, hb, hr, hml, hown, hts, hlocks, hin, hK, hfr, hlo, hlaw⟩ := C
        have hw : X_wd ax.2.1 (.methodLink (X_R (X_o j)) idx objectInit) = true ∧ 1 ≤ X_fr j ∧ 20 ≤ X_lo j := by
          unfold X_chk at hc
          simp only [Bool.and_eq_true, h0.1, if_true, decide_eq_true_eq] at hc
          obtain ⟨-, ⟨w1, w4⟩, w5⟩ := hc
          exact ⟨w1, w4, w5⟩
        obtain ⟨w1, w4, w5⟩ := hw
        have w2 := X_w_oi
        have w3 := X_w_oc
        exact W.objInit hx hb hown (hts _ (X_wd_in w1)) (hts _ (X_wd_in w2)) (hts _ (X_wd_in w3)) rfl (by rw [hml]; exact hsz) rfl hd (Nat.le_trans w4 hfr) (by show 2 * 0 + _ + 12 ≤ _; unfold X_cvs at h8; omega) (k H locs hR hq)
      · cases hs
    · cases hs
  | invokestatic idx =>
    simp only [X_hstep] at hs
    split at hs
    · rename_i hax
      split at hs
      · rename_i z dp a sp a0 r
        split at hs
        · rename_i n0 f n1 g h1 h2
          split at hs
          · cases hs
          · rename_i h0
            cases hs
            simp only [not_or, Decidable.not_not] at h0
            obtain ⟨g3, g4, g5, g6, g7, g8⟩ := h0
            exact X_acopy C hc hax hR hq hsz h1 h2 g3 g4 g5 g6 g7 (by rw [← X_cvs_cat (X_ad b B)] at g8; exact g8) k
        · cases hs
      · cases hs
    · cases hs
  | _ => cases hs
end X_HS
theorem X_pop_spec : ∀ (n : Nat) (st as r : List Value), X_pop n st = some (as, r) → st = as.reverse ++ r ∧ as.length = n := by
  intro n
  induction n with
  | zero =>
    intro st as r h
    cases h
    exact ⟨rfl, rfl⟩
  | succ n ih =>
    intro st as r h
    cases st with
    | nil => cases h
    | cons v t =>
      simp only [X_pop] at h
      split at h
      · rename_i as' r' h1
        cases h
        obtain ⟨rfl, hl⟩ := ih _ _ _ h1
        exact ⟨by simp, by simp [hl]⟩
      · cases h
theorem X_run_up {sc : X_Sc} : ∀ (n j : Nat) (F : X_F) (v : Option Value) (S' : X_S), X_run sc n j F = some (v, S') → F.2.2.2.2.1 ≤ S'.2.1 ∧ F.2.2.2.2.2 ≤ S'.2.2 := by
  intro n
  induction n with
  | zero => intro j F v S' h; cases h
  | succ n ih =>
    intro j F v S' h
    unfold X_run at h
    split at h
    · rename_i F' hF
      have h1 := ih j F' v S' h
      have h2 : F.2.2.2.2.1 ≤ F'.2.2.2.2.1 ∧ F.2.2.2.2.2 ≤ F'.2.2.2.2.2 := by
        unfold X_step at hF
        split at hF
        · split at hF
          · cases hF
            exact ⟨Nat.le_refl _, Nat.le_refl _⟩
          · split at hF
            · rename_i hh
              cases hF
              exact X_S_up hh
            · unfold X_cstep at hF
              repeat' split at hF
              all_goals cases hF
        · cases hF
      exact ⟨Nat.le_trans h2.1 h1.1, Nat.le_trans h2.2 h1.2⟩
    · rename_i k as pc ls st S hF
      have h2 : S = F.2.2.2 := by
        unfold X_step at hF
        split at hF
        · split at hF
          · cases hF
          · split at hF
            · cases hF
            · unfold X_cstep at hF
              repeat' split at hF
              all_goals first
                | (cases hF; done)
                | (cases hF; rfl)
        · cases hF
      subst h2
      split at h
      · rename_i v1 S1 h3
        have e1 := ih _ _ _ _ h3
        have e2 := ih _ _ _ _ h
        exact ⟨Nat.le_trans e1.1 e2.1, Nat.le_trans e1.2 e2.2⟩
      · cases h
    · rename_i r hF
      cases h
      have h2 : S' = F.2.2.2 := by
        unfold X_step at hF
        split at hF
        · split at hF
          · cases hF
          · split at hF
            · cases hF
            · unfold X_cstep at hF
              repeat' split at hF
              all_goals first
                | (cases hF; done)
                | (cases hF; rfl)
        · cases hF
      subst h2
      exact ⟨Nat.le_refl _, Nat.le_refl _⟩
    · cases h
def X_ws (k : Nat) : List Cond := .code (X_y k) (X_b k) (X_nL k) (X_rt k) :: lw_g
/-- a method's start and end -/
def X_Pc (b B : Nat) (scr : Cell) (D : va_G) (cA : FieldType → ClassId) (as : List Value) (S : X_S) : Array Value → State → Prop := fun a U => a = (X_cvs (X_ad b B) as).toArray ∧ X_Rl b B scr D cA S U.heap ∧ X_K D cA U
def X_Qc (b B : Nat) (scr : Cell) (D : va_G) (cA : FieldType → ClassId) (v : Option Value) (S' : X_S) : Array Value → State → Outcome → State → Prop := fun _ _ o t => o = .returned (v.map (X_cv (X_ad b B))) ∧ X_Rl b B scr D cA S' t.heap
theorem X_blind {b B : Nat} {scr : Cell} {D : va_G} {cA : FieldType → ClassId} {as : List Value} {S : X_S} : FrameBlind (X_Pc b B scr D cA as S) := fun a U g mk h => ⟨h.1, h.2.1, X_K.same (s := U) (U := U.calling g mk a) rfl h.2.2⟩
section X_CALL
variable {p : Program} {l : Launch} {e : Env} {R : Room} {s : State} {m : MethodId} {args : Array Value} {below : List Frame} {meth : Method} {c : Code} {H : Heap} {locs : List Loc} {cells slots mc ms : Nat} {Q : State → Prop}
variable {sc : X_Sc} {scr : Cell} {D : va_G} {cA : FieldType → ClassId} {b B : Nat} {j : Nat} {lsA : Array Slot} {S' : X_S}
theorem X_callW {a : Array Value} {v : Option Value} {pc : Nat} {st0 rest : List Value} (hr : va_Run p l e R s m args below meth c H locs cells slots mc ms (F0 m pc lsA st0) rest (X_Qc b B scr D cA v S' a) (fun q => B ≤ q)) (hq : ∀ q ∈ locs, B ≤ q.base)
    (k : ∀ H' locs', X_Rl b B scr D cA S' H' → (∀ q ∈ locs', B ≤ q.base) → W p l e R s m args below meth c H' locs' (cells + mc) (slots + ms) Q (F0 m (pc + 3) lsA ((v.map (X_cv (X_ad b B))).toList ++ rest))) : W p l e R s m args below meth c H locs cells slots Q (F0 m pc lsA st0) := by
  intro T hT X
  obtain ⟨v', st₀, t, T', L, h0, X', hL, e1, e2, ⟨hv, hR'⟩, st⟩ := hr T hT X
  have hv' : v' = v.map (X_cv (X_ad b B)) := Outcome.returned.inj hv
  subst hv'
  obtain ⟨t2, a1, b1⟩ := k T'.heap (locs ++ L) (by rw [e1]; exact hR') (fun q hq2 => by
    rcases List.mem_append.mp hq2 with h | h
    · exact hq q h
    · exact hL q h) T' rfl X'
  exact ⟨t2, st t2 a1, b1⟩
end X_CALL
theorem X_goodin {k : Nat} (h : Cond.code (X_y k) (X_b k) (X_nL k) (X_rt k) ∈ lw_g) : GoodIn lw_g (X_ws k) := by
  have hg : ∀ w ∈ lw_g, w ∈ lw_g ∧ ((w.onTables && w.keeps) = true ∨ ∃ ty, w = .arrayClass ty) := fun w hw => ⟨hw, good_of_word (List.mem_filter.mp hw).2⟩
  intro w hw
  rcases List.mem_cons.mp hw with h1 | h1
  · subst h1
    exact hg _ h
  · exact hg _ h1
theorem X_slen_cat (as : List Value) : (lg_sl as).length = (as.map fun v => v.category).sum := by
  unfold lg_sl
  induction as with
  | nil => rfl
  | cons v r ih =>
    rw [List.flatMap_cons, List.length_append, ih, List.map_cons, List.sum_cons]
    congr 1
    rcases lv_cat v with h | h
    · rw [if_neg (by omega), h]; rfl
    · rw [if_pos h, h]; rfl
theorem X_init_eq {k : Nat} (h : X_init k = true) : (X_y k).name = "<init>" := of_decide_eq_true h
/-- what is told ahead of a call -/
theorem X_mok_spec {k : Nat} (h : X_mok k = true) :
    Cond.code (X_y k) (X_b k) (X_nL k) (X_rt k) ∈ lw_g ∧ Cond.initialized (X_y k).cls ∈ lw_g ∧ (X_y k).cls ≠ "java/lang/invoke/MethodHandle" ∧ (X_y k).cls ≠ "java/lang/invoke/VarHandle"
    ∧ (parseMethodDescriptor (X_y k).desc).map (fun d => d.parameters.length) = some (X_na k) ∧ plainName (X_y k).cls = true ∧ X_R (X_o k) = (X_y k).cls
    ∧ (X_kd k = 0 → X_wd (X_pl k).2.1 (.instanceMethod (X_y k)) = true ∧ X_wd (X_pl k).2.2 (.selects (X_y k).cls (X_y k) (X_y k)) = true ∧ ∃ q, X_cl[X_ci k]? = some q ∧ (X_y k).cls = q.1)
    ∧ (X_kd k = 1 → X_wd (X_pl k).2.1 (.static (X_y k)) = true)
    ∧ (X_kd k = 2 → X_wd (X_pl k).2.1 (.instanceMethod (X_y k)) = true ∧ X_init k = true ∧ X_rt k = none) := by
  unfold X_mok at h
  simp only [Bool.and_eq_true, decide_eq_true_eq] at h
  obtain ⟨⟨⟨⟨⟨⟨⟨h1, h2⟩, h3⟩, h4⟩, h5⟩, h9⟩, h10⟩, h11⟩ := h
  have hcode : Cond.code (X_y k) (X_b k) (X_nL k) (X_rt k) ∈ lw_g := by
    split at h1
    · rename_i y bb n r hw
      simp only [Bool.and_eq_true, decide_eq_true_eq] at h1
      obtain ⟨⟨⟨e1, e2⟩, e3⟩, e4⟩ := h1
      have hbb : X_b k = bb := by
        unfold X_b
        rw [if_neg e4, hw]
      rw [hbb, ← e1, ← e2, ← e3]
      exact List.mem_filter.mpr ⟨List.mem_of_getElem? hw, rfl⟩
    · cases h1
  refine ⟨hcode, X_wd_in h2, h3, h4, h5, h9, h10, fun z => ?_, fun z => ?_, fun z => ?_⟩
  · rw [z] at h11
    simp only [Bool.and_eq_true] at h11
    refine ⟨h11.1.1, h11.1.2, ?_⟩
    have w4 := h11.2
    split at w4
    · rename_i q hq
      exact ⟨q, hq, of_decide_eq_true w4⟩
    · cases w4
  · rw [z] at h11
    exact h11
  · rw [z] at h11
    simp only [Bool.and_eq_true, decide_eq_true_eq] at h11
    exact ⟨h11.1.1, h11.1.2, h11.2⟩
theorem X_cw_spec {j o idx : Nat} {ax : Nat × Nat × Nat} (h : X_cw j o idx ax = true) :
    X_mok ax.1 = true ∧ X_fr ax.1 + 1 ≤ X_fr j ∧ 8 + (X_nL ax.1 + 11) + X_lo ax.1 ≤ X_lo j ∧ ax.1 < X_lawj
    ∧ (Cond.methodLink (X_R o) idx (X_y ax.1) ∈ lw_g ∨ Cond.methodLinkNest (X_R o) idx (X_y ax.1) "MixfixBench" ∈ X_nest) := by
  unfold X_cw at h
  simp only [Bool.and_eq_true, decide_eq_true_eq] at h
  obtain ⟨⟨⟨h6, h7⟩, h8⟩, h11⟩ := h
  refine ⟨X_mokA _ h8, h6, h7, h8, ?_⟩
  obtain ⟨g1, g2, g3⟩ := X_PM_ok o _ (List.mem_of_getElem? h11)
  by_cases e : ax.2.1 % 2 = 0
  · refine Or.inl ?_
    have h4 := List.mem_filter.mpr ⟨g1, g2 e⟩
    simp only [X_pmw, e, if_true] at h4
    exact h4
  · refine Or.inr ?_
    have h4 := List.mem_filter.mpr ⟨g1, g3 e⟩
    simp only [X_pmw, e, if_false] at h4
    exact h4
/-- the whole walk, for runs of at most n steps -/
def X_Walk (sc : X_Sc) (l : Launch) (b B : Nat) (scr : Cell) (D : va_G) (cA : FieldType → ClassId) (n : Nat) : Prop :=
  ∀ (j : Nat) (F : X_F) (v : Option Value) (S' : X_S), X_run sc n j F = some (v, S') →
  ∀ (p : Program) (e : Env) (R : Room) (s : State) (m : MethodId) (args : Array Value) (below : List Frame) (meth : Method) (c : Code) (H : Heap) (locs : List Loc) (lsA : Array Slot) (z0 l0 : Nat) (Q : State → Prop),
    X_Cx scr D cA p R s m args meth c j → lv_has lsA (X_nL j) (X_cvl (X_ad b B) F.2.1) → X_Rl b B scr D cA F.2.2.2 H → (∀ q ∈ locs, B ≤ q.base) → z0 ≤ F.2.2.2.2.1 → l0 ≤ F.2.2.2.2.2 → S'.2.1 - z0 ≤ R.cells → S'.2.2 - l0 ≤ R.slots →
    (∀ (row : X_Row) (ls : X_L) (st : List Value) (lsA' : Array Slot) (H' : Heap) (locs' : List Loc), X_chk j row = true → X_cstep j row ls st S' = some (.inr (.inr (v, S'))) → X_Rl b B scr D cA S' H' → (∀ q ∈ locs', B ≤ q.base) →
      W p l e R s m args below meth c H' locs' (S'.2.1 - z0) (S'.2.2 - l0) Q (F0 m row.1 lsA' (X_cvs (X_ad b B) st))) →
    W p l e R s m args below meth c H locs (F.2.2.2.2.1 - z0) (F.2.2.2.2.2 - l0) Q (F0 m F.1 lsA (X_cvs (X_ad b B) F.2.2.1))
set_option maxHeartbeats 2000000 in
theorem X_met {sc : X_Sc} {l : Launch} {b B : Nat} {scr : Cell} {D : va_G} {cA : FieldType → ClassId} {n : Nat} (hW : X_Walk sc l b B scr D cA n) {k : Nat} {as : List Value} {S : X_S} {v : Option Value} {S' : X_S} (h : X_run sc n k (0, lv_args 0 as, [], S) = some (v, S'))
    (hpl : plainName (X_y k).cls = true) (hR : X_R (X_o k) = (X_y k).cls) (hlaw : k < X_lawj) (hn : (as.map fun v => v.category).sum ≤ X_nL k) :
    Met l (X_y k) (X_ws k) ({ frames := X_fr k, cells := S'.2.1 - S.2.1, slots := S'.2.2 - S.2.2, locals := X_lo k }) (X_Pc b B scr D cA as S) (X_Qc b B scr D cA v S') (S'.2.1 - S.2.1) (S'.2.2 - S.2.2) (fun q => B ≤ q) := by
  refine Met.ofW (cc := X_b k) (maxL := X_nL k) (ret := X_rt k) hpl rfl ?_
  intro p e s m args below meth c s₁ BB hml hv
  obtain ⟨rfl, hRl, hK⟩ := hv
  have hts := atoms_spec (ws := X_ws k) BB.pre
  have hown : s.vm.findClass (X_R (X_o k)) = some m.cls := by rw [hR]; exact findClass_of_methodNamed BB.named
  have hlocks := BB.notSynchronized
  have hin : X_init k = true → meth.name = "<init>" := fun q => (name_of_methodNamed BB.named BB.method).1.trans (X_init_eq q)
  have hl := lv_entry (X_cvs (X_ad b B) as) (n := X_nL k) (by rw [X_slen_cat, X_cvs_cat]; exact hn)
  rw [lg_entry_eq]
  generalize (lg_sl (X_cvs (X_ad b B) as) ++ List.replicate (X_nL k - (lg_sl (X_cvs (X_ad b B) as)).length) Slot.unset).toArray = ls at hl ⊢
  rw [X_args] at hl
  have C : X_Cx scr D cA p ((headSpec (X_ws k) { frames := X_fr k, cells := S'.2.1 - S.2.1, slots := S'.2.2 - S.2.2, locals := X_lo k }).room) s m (X_cvs (X_ad b B) as).toArray meth c k :=
    ⟨BB.exec, BB.bytes, BB.returns, hml, hown, fun w hw => hts w (List.mem_cons_of_mem _ hw), hlocks, hin, hK, Nat.le_refl _, Nat.le_refl _, fun q => absurd q (by omega)⟩
  have key := hW k (0, lv_args 0 as, [], S) v S' h p e _ s m _ below meth c s.heap [] ls S.2.1 S.2.2 (MQ below (X_Qc b B scr D cA v S') (X_cvs (X_ad b B) as).toArray s (S'.2.1 - S.2.1) (S'.2.2 - S.2.2) (fun q => B ≤ q)) C hl hRl (fun q hq => by cases hq) (Nat.le_refl _) (Nat.le_refl _) (Nat.le_refl _) (Nat.le_refl _) ?_
  · simp only [Nat.sub_self] at key
    exact key
  · intro row ls2 st lsA' H' locs' hc hs hR' hq'
    have hx := BB.exec
    have hb := BB.bytes
    have hr := BB.returns
    obtain ⟨pc, ⟨i, nn⟩, ax⟩ := row
    have hd := X_chk_dec hc
    cases i with
    | ireturn =>
      simp only [X_cstep] at hs
      split at hs
      · rename_i x
        split at hs
        · rename_i ty hty
          split at hs
          · rename_i hfit
            cases hs
            exact W.zret (ty := ty) hx hb (hr.trans hty) (X_fit_ok id hfit).1 (fun t ht _ => ⟨rfl, by rw [ht]; exact hR'⟩) hq' hd
          · cases hs
        · cases hs
      · cases hs
    | lreturn =>
      simp only [X_cstep] at hs
      split at hs
      · rename_i x
        split at hs
        · rename_i ty hty
          split at hs
          · rename_i hfit
            cases hs
            have hty2 : ty = .long := by
              unfold X_fit at hfit
              split at hfit <;> first | rfl | (rename_i q; cases q) | cases hfit
            subst hty2
            exact W.lret hx hb (hr.trans hty) (fun t ht _ => ⟨rfl, by rw [ht]; exact hR'⟩) hq' hd
          · cases hs
        · cases hs
      · cases hs
    | return_ =>
      simp only [X_cstep] at hs
      split at hs
      · split at hs
        · rename_i hty
          cases hs
          exact W.vret hx hb (hr.trans hty) (fun t ht _ => ⟨rfl, by rw [ht]; exact hR'⟩) hq' hd
        · cases hs
      · cases hs
    | invokevirtual idx =>
      simp only [X_cstep] at hs
      repeat' split at hs
      all_goals cases hs
    | invokespecial idx =>
      simp only [X_cstep] at hs
      repeat' split at hs
      all_goals cases hs
    | invokestatic idx =>
      simp only [X_cstep] at hs
      repeat' split at hs
      all_goals cases hs
    | _ => cases hs
set_option maxHeartbeats 4000000 in
theorem X_walk (sc : X_Sc) (l : Launch) (b B : Nat) (scr : Cell) (D : va_G) (cA : FieldType → ClassId) (hsc : scr.slots.size = sc.1 ∧ ∀ j, j < sc.1 → scr.slots[j]? = some (.int (sc.2 j))) : ∀ n, X_Walk sc l b B scr D cA n := by
  intro n
  induction n with
  | zero => intro j F v S' h; cases h
  | succ n ih =>
    intro j F v S' h p e R s m args below meth c H locs lsA z0 l0 Q C hl hR hq hz0 hl0 hfc hfs hend
    obtain ⟨pc, ls, st, S⟩ := F
    unfold X_run at h
    cases hst : X_step sc j (pc, ls, st, S) with
    | none => rw [hst] at h; cases h
    | some O =>
      rw [hst] at h
      unfold X_step at hst
      cases hrow : X_row j pc with
      | none => rw [hrow] at hst; cases hst
      | some row =>
        rw [hrow] at hst
        obtain ⟨hpc, hc⟩ := X_row_chk hrow
        subst hpc
        cases hp : X_pstep (X_nL j) row ls st with
        | some P =>
          obtain ⟨pc', ls', st'⟩ := P
          simp only [hp] at hst
          cases hst
          exact X_pure C hc hl hp (fun lsA' hl' => ih j (pc', ls', st', S) v S' h p e R s m args below meth c H locs lsA' z0 l0 Q C hl' hR hq hz0 hl0 hfc hfs hend)
        | none =>
          simp only [hp] at hst
          cases hh : X_hstep sc row st S with
          | some P =>
            obtain ⟨pc', st', S1⟩ := P
            simp only [hh] at hst
            cases hst
            have hup := X_S_up hh
            have hup2 := X_run_up _ _ _ _ _ h
            refine X_heap hsc C hc hR hq hl.1 hh hz0 hl0 ⟨Nat.le_trans (Nat.sub_le_sub_right hup2.1 _) hfc, Nat.le_trans (Nat.sub_le_sub_right hup2.2 _) hfs⟩ (fun H' locs' hR' hq' => ?_)
            exact ih j (pc', ls, st', S1) v S' h p e R s m args below meth c H' locs' lsA z0 l0 Q C hl hR' hq' (Nat.le_trans hz0 hup.1) (Nat.le_trans hl0 hup.2) hfc hfs hend
          | none =>
            simp only [hh] at hst
            have hrt : ∀ r, O = .inr (.inr r) → W p l e R s m args below meth c H locs (S.2.1 - z0) (S.2.2 - l0) Q (F0 m row.1 lsA (X_cvs (X_ad b B) st)) := by
              intro r hr
              subst hr
              simp only [Option.some.injEq] at h
              subst h
              have hS : S' = S := by
                unfold X_cstep at hst
                repeat' split at hst
                all_goals first
                  | (cases hst; done)
                  | (cases hst; rfl)
              subst hS
              exact hend row ls st lsA H locs hc hst hR hq
            have hx := C.1
            have hb := C.2.1
            have hml := C.2.2.2.1
            have hown := C.2.2.2.2.1
            have hts := C.2.2.2.2.2.1
            have hK := C.2.2.2.2.2.2.2.2.1
            have hfr := C.2.2.2.2.2.2.2.2.2.1
            have hlo := C.2.2.2.2.2.2.2.2.2.2.1
            have go : ∀ (k : Nat) (as : List Value) (rest : List Value) (v1 : Option Value) (S1 : X_S), X_run sc n k (0, lv_args 0 as, [], S) = some (v1, S1) → X_run sc n j (row.1 + 3, ls, v1.toList ++ rest, S1) = some (v, S') →
                (Met l (X_y k) (X_ws k) ({ frames := X_fr k, cells := S1.2.1 - S.2.1, slots := S1.2.2 - S.2.2, locals := X_lo k }) (X_Pc b B scr D cA as S) (X_Qc b B scr D cA v1 S1) (S1.2.1 - S.2.1) (S1.2.2 - S.2.2) (fun q => B ≤ q) →
                  (S.2.1 - z0 + (S1.2.1 - S.2.1) ≤ R.cells ∧ S.2.2 - l0 + (S1.2.2 - S.2.2) ≤ R.slots) →
                  va_Run p l e R s m args below meth c H locs (S.2.1 - z0) (S.2.2 - l0) (S1.2.1 - S.2.1) (S1.2.2 - S.2.2) (F0 m row.1 lsA (X_cvs (X_ad b B) st)) (X_cvs (X_ad b B) rest) (X_Qc b B scr D cA v1 S1 (X_cvs (X_ad b B) as).toArray) (fun q => B ≤ q)) →
                plainName (X_y k).cls = true → X_R (X_o k) = (X_y k).cls → k < X_lawj → (as.map fun v => v.category).sum ≤ X_nL k →
                W p l e R s m args below meth c H locs (S.2.1 - z0) (S.2.2 - l0) Q (F0 m row.1 lsA (X_cvs (X_ad b B) st)) := by
              intro k as rest v1 S1 h1 h2 hrun hpl hRn hlw hnn
              have u1 := X_run_up _ _ _ _ _ h1
              have u2 := X_run_up _ _ _ _ _ h2
              have u1a : S.2.1 ≤ S1.2.1 := u1.1
              have u1b : S.2.2 ≤ S1.2.2 := u1.2
              have u2a : S1.2.1 ≤ S'.2.1 := u2.1
              have u2b : S1.2.2 ≤ S'.2.2 := u2.2
              have hz0' : z0 ≤ S.2.1 := hz0
              have hl0' : l0 ≤ S.2.2 := hl0
              refine X_callW (hrun (X_met ih h1 hpl hRn hlw hnn) ⟨by omega, by omega⟩) hq (fun H' locs' hR' hq' => ?_)
              have hk := ih j (row.1 + 3, ls, v1.toList ++ rest, S1) v S' h2 p e R s m args below meth c H' locs' lsA z0 l0 Q C hl hR' hq' (Nat.le_trans hz0 u1.1) (Nat.le_trans hl0 u1.2) hfc hfs hend
              rw [show S.2.1 - z0 + (S1.2.1 - S.2.1) = S1.2.1 - z0 by omega, show S.2.2 - l0 + (S1.2.2 - S.2.2) = S1.2.2 - l0 by omega]
              have hstk : (v1.map (X_cv (X_ad b B))).toList ++ X_cvs (X_ad b B) rest = X_cvs (X_ad b B) (v1.toList ++ rest) := by cases v1 <;> rfl
              rw [hstk]
              exact hk
            obtain ⟨pc, ⟨i, nn⟩, ax⟩ := row
            have hd := X_chk_dec hc
            cases i with
            | ireturn =>
              simp only [X_cstep] at hst
              repeat' split at hst
              all_goals first
                | (cases hst; done)
                | (cases hst; exact hrt _ rfl)
            | lreturn =>
              simp only [X_cstep] at hst
              repeat' split at hst
              all_goals first
                | (cases hst; done)
                | (cases hst; exact hrt _ rfl)
            | return_ =>
              simp only [X_cstep] at hst
              repeat' split at hst
              all_goals first
                | (cases hst; done)
                | (cases hst; exact hrt _ rfl)
            | invokevirtual idx =>
              have hw : X_cw j (X_o j) idx ax = true ∧ X_kd ax.1 = 0 := by
                unfold X_chk at hc
                simp only [Bool.and_eq_true, decide_eq_true_eq] at hc
                exact hc.2
              obtain ⟨hcw, hkd⟩ := hw
              obtain ⟨cm, c6, c7, c8, c11⟩ := X_cw_spec hcw
              obtain ⟨c1, c2, c3, c4, c5, c9, c10, cv, -, -⟩ := X_mok_spec cm
              obtain ⟨w2, w3, qq, hqq, hcls⟩ := cv hkd
              simp only [X_cstep] at hst
              split at hst
              · rename_i as q r hpop
                split at hst
                · rename_i ci fs hobj
                  split at hst
                  · rename_i hcond
                    cases hst
                    obtain ⟨hci, h8, hnn⟩ := hcond
                    obtain ⟨hstk, hlen⟩ := X_pop_spec _ _ _ _ hpop
                    simp only at h
                    split at h
                    · rename_i v1 S1 h1
                      refine go ax.1 (.ref q :: as) r v1 S1 h1 h (fun hM hf => ?_) c9 c10 c8 (by simpa [Value.category] using hnn)
                      subst hci
                      obtain ⟨cellB, k1, k2, k3⟩ := va_recv (s := s) (cl := X_cl) (tys := []) (D := D) (ws := [(X_ad b B q, X_ce (X_ad b B) cA (.inr (X_ci ax.1, fs)))]) (H := H) (q := qq) ⟨hK.1, fun k q h => by simp at h⟩ (fun k' q' hq' => by
                        cases k' with
                        | zero => cases hq'; exact hR.at hobj (X_ne99 (X_clt hqq))
                        | succ k' => simp at hq') hqq (q0 := 0) rfl
                      have hpre : PreV s H (X_y ax.1).cls (X_ad b B q) (X_Pc b B scr D cA (.ref q :: as) S) (X_cvs (X_ad b B) as) := ⟨X_blind, ⟨cellB, k1, k2, by rw [hcls]; exact k3⟩, fun U hU hWU => ⟨rfl, by rw [hU]; exact hR, hK.warm hWU⟩⟩
                      have hstack : X_cvs (X_ad b B) st = (X_cvs (X_ad b B) as).reverse ++ .ref (X_ad b B q) :: X_cvs (X_ad b B) r := by
                        rw [hstk]
                        simp [X_cvs, X_cv]
                      have hW8 : 2 * (F0 m pc lsA (X_cvs (X_ad b B) st)).monitorRoom + ((X_cvs (X_ad b B) r).map fun v => v.category).sum ≤ 8 := by rw [X_cvs_cat]; show 2 * 0 + _ ≤ 8; omega
                      rcases c11 with hlk | hlk
                      · exact va_runV (C := (X_y ax.1).cls) (bytes := X_b ax.1) (maxL := X_nL ax.1) (ret := X_rt ax.1) (n := X_na ax.1) ⟨hx, hb, hml, hown, hts⟩ hM ⟨callB_of (ws' := lw_g) (X_na ax.1) hts (X_goodin c1) rfl rfl rfl (hts _ c2) (hts _ hlk) ⟨c3, c4, c5⟩ ⟨Nat.le_trans c6 hfr, Nat.le_trans c7 hlo⟩, hts _ (X_wd_in w2), hts _ (X_wd_in w3)⟩ hpre rfl (by first | (rw [List.length_map]; exact hlen) | (unfold X_cvs; rw [List.length_map]; exact hlen)) hl.1 hstack hW8 hd hf
                      · exact va_runVN (C := (X_y ax.1).cls) (host := "MixfixBench") (bytes := X_b ax.1) (maxL := X_nL ax.1) (ret := X_rt ax.1) (n := X_na ax.1) ⟨hx, hb, hml, hown, hts⟩ hM ⟨va_cnB (ws' := lw_g) (X_na ax.1) hts (X_goodin c1) rfl rfl rfl (hK.2.2.1 _ hlk) (hts _ c2) ⟨c3, c4, c5⟩ ⟨Nat.le_trans c6 hfr, Nat.le_trans c7 hlo⟩, hts _ (X_wd_in w2), hts _ (X_wd_in w3)⟩ hpre rfl (by first | (rw [List.length_map]; exact hlen) | (unfold X_cvs; rw [List.length_map]; exact hlen)) hl.1 hstack hW8 hd hf
                    · cases h
                  · cases hst
                · cases hst
              · cases hst
            | invokespecial idx =>
              simp only [X_cstep] at hst
              split at hst
              · rename_i as q r hpop
                split at hst
                · rename_i hcond
                  cases hst
                  obtain ⟨h99, h8, hnn⟩ := hcond
                  have hw : X_cw j (X_o j) idx ax = true ∧ X_kd ax.1 = 2 := by
                    unfold X_chk at hc
                    simp only [Bool.and_eq_true, h99, if_false, decide_eq_true_eq] at hc
                    exact hc.2
                  obtain ⟨hcw, hkd⟩ := hw
                  obtain ⟨cm, c6, c7, c8, c11⟩ := X_cw_spec hcw
                  obtain ⟨c1, c2, c3, c4, c5, c9, c10, -, -, cv⟩ := X_mok_spec cm
                  obtain ⟨w2, w3, w4⟩ := cv hkd
                  obtain ⟨hstk, hlen⟩ := X_pop_spec _ _ _ _ hpop
                  simp only at h
                  split at h
                  · rename_i v1 S1 h1
                    refine go ax.1 (.ref q :: as) r v1 S1 h1 h (fun hM hf => ?_) c9 c10 c8 (by simpa [Value.category] using hnn)
                    have hpre : PreS s H (X_Pc b B scr D cA (.ref q :: as) S) (.ref (X_ad b B q) :: X_cvs (X_ad b B) as) := ⟨X_blind, fun U hU hWU => ⟨rfl, by rw [hU]; exact hR, hK.warm hWU⟩⟩
                    have hstack : X_cvs (X_ad b B) st = (X_cvs (X_ad b B) as).reverse ++ .ref (X_ad b B q) :: X_cvs (X_ad b B) r := by
                      rw [hstk]
                      simp [X_cvs, X_cv]
                    have hW8 : 2 * (F0 m pc lsA (X_cvs (X_ad b B) st)).monitorRoom + ((X_cvs (X_ad b B) r).map fun v => v.category).sum ≤ 8 := by rw [X_cvs_cat]; show 2 * 0 + _ ≤ 8; omega
                    have hgi := X_goodin c1
                    unfold X_ws at hM hgi
                    rw [w4] at hM hgi
                    rcases c11 with hlk | hlk
                    · exact va_runI (bytes := X_b ax.1) (maxL := X_nL ax.1) (n := X_na ax.1) ⟨hx, hb, hml, hown, hts⟩ hM ⟨callB_of (ws' := lw_g) (X_na ax.1) hts hgi rfl rfl rfl (hts _ c2) (hts _ hlk) ⟨c3, c4, c5⟩ ⟨Nat.le_trans c6 hfr, Nat.le_trans c7 hlo⟩, X_init_eq w3, hts _ (X_wd_in w2)⟩ hpre rfl (by first | (rw [List.length_map]; exact hlen) | (unfold X_cvs; rw [List.length_map]; exact hlen)) hl.1 hstack hW8 hd hf
                    · exact va_runIN (host := "MixfixBench") (bytes := X_b ax.1) (maxL := X_nL ax.1) (n := X_na ax.1) ⟨hx, hb, hml, hown, hts⟩ hM ⟨va_cnB (ws' := lw_g) (X_na ax.1) hts hgi rfl rfl rfl (hK.2.2.1 _ hlk) (hts _ c2) ⟨c3, c4, c5⟩ ⟨Nat.le_trans c6 hfr, Nat.le_trans c7 hlo⟩, X_init_eq w3, hts _ (X_wd_in w2)⟩ hpre rfl (by first | (rw [List.length_map]; exact hlen) | (unfold X_cvs; rw [List.length_map]; exact hlen)) hl.1 hstack hW8 hd hf
                  · cases h
                · cases hst
              · cases hst
            | invokestatic idx =>
              simp only [X_cstep] at hst
              split at hst
              · rename_i as r hpop
                split at hst
                · rename_i hcond
                  cases hst
                  obtain ⟨h99, h8, hnn⟩ := hcond
                  have hw : X_cw j (X_o j) idx ax = true ∧ X_kd ax.1 = 1 := by
                    unfold X_chk at hc
                    simp only [Bool.and_eq_true, h99, if_false, decide_eq_true_eq] at hc
                    exact hc.2
                  obtain ⟨hcw, hkd⟩ := hw
                  obtain ⟨cm, c6, c7, c8, c11⟩ := X_cw_spec hcw
                  obtain ⟨c1, c2, c3, c4, c5, c9, c10, -, cv, -⟩ := X_mok_spec cm
                  have w2 := cv hkd
                  obtain ⟨hstk, hlen⟩ := X_pop_spec _ _ _ _ hpop
                  simp only at h
                  split at h
                  · rename_i v1 S1 h1
                    refine go ax.1 as r v1 S1 h1 h (fun hM hf => ?_) c9 c10 c8 hnn
                    have hpre : PreS s H (X_Pc b B scr D cA as S) (X_cvs (X_ad b B) as) := ⟨X_blind, fun U hU hWU => ⟨rfl, by rw [hU]; exact hR, hK.warm hWU⟩⟩
                    have hstack : X_cvs (X_ad b B) st = (X_cvs (X_ad b B) as).reverse ++ X_cvs (X_ad b B) r := by
                      rw [hstk]
                      simp [X_cvs]
                    have hW8 : 2 * (F0 m pc lsA (X_cvs (X_ad b B) st)).monitorRoom + ((X_cvs (X_ad b B) r).map fun v => v.category).sum ≤ 8 := by rw [X_cvs_cat]; show 2 * 0 + _ ≤ 8; omega
                    rcases c11 with hlk | hlk
                    · exact va_runS (bytes := X_b ax.1) (maxL := X_nL ax.1) (ret := X_rt ax.1) (n := X_na ax.1) ⟨hx, hb, hml, hown, hts⟩ hM ⟨callB_of (ws' := lw_g) (X_na ax.1) hts (X_goodin c1) rfl rfl rfl (hts _ c2) (hts _ hlk) ⟨c3, c4, c5⟩ ⟨Nat.le_trans c6 hfr, Nat.le_trans c7 hlo⟩, hts _ (X_wd_in w2)⟩ hpre rfl (by first | (rw [List.length_map]; exact hlen) | (unfold X_cvs; rw [List.length_map]; exact hlen)) hl.1 hstack hW8 hd hf
                    · exact va_runSN (host := "MixfixBench") (bytes := X_b ax.1) (maxL := X_nL ax.1) (ret := X_rt ax.1) (n := X_na ax.1) ⟨hx, hb, hml, hown, hts⟩ hM ⟨va_cnB (ws' := lw_g) (X_na ax.1) hts (X_goodin c1) rfl rfl rfl (hK.2.2.1 _ hlk) (hts _ c2) ⟨c3, c4, c5⟩ ⟨Nat.le_trans c6 hfr, Nat.le_trans c7 hlo⟩, hts _ (X_wd_in w2), trivial⟩ hpre rfl (by first | (rw [List.length_map]; exact hlen) | (unfold X_cvs; rw [List.length_map]; exact hlen)) hl.1 hstack hW8 hd hf
                  · cases h
                · cases hst
              · cases hst
            | _ => cases hst
end
section
/-! THE CLAIM OUT OF ONE WALK OF THE LAW'S BODY. Your part is whole_start (and what it stands on); all else here is the same for every law, but numbers. -/
def R_law : String := "MixfixBenchLaw"
def lw_P (b : Addr) (xs : List Int32) (args : Array Value) (s : State) : Prop := args = #[.ref b] ∧ s.IntsAt b xs ∧ xs.length ≤ 6 ∧ (Jvm.Cond.and given_1 narrow_1).before args s = true
def lw_Q (_ : Array Value) (s : State) (o : Outcome) (t : State) : Prop := o = .returned (some (.int 1)) ∧ Framed s o t [] 600000 7302250
def lw_Z (below : List Frame) (a : Array Value) (s : State) : State → Prop := fun t => ∃ o, t.status = .running ∧ Ended t below o ∧ lw_Q a s o t
/-- the law's own end, with 1 on the stack, nothing written that was there before, its room as the claim has it -/
theorem lw_ret {p : Program} {l : Launch} {e : Env} {s : State} {m : MethodId} {below : List Frame} {meth : Method} {c : Code} {b : Nat} (hx : p.tables.exec = Jvm.exec) (hb : c.code = code) (hr : meth.sig.returnType = ret) (hlocks : meth.locks = false) {pc : Nat} {H : Heap} {ls : Array Slot} (hdg : decode code pc = .ok (.ireturn, 1)) : W p l e room_1 s m #[Value.ref b] below meth c H [] 600000 7302250 (lw_Z below #[Value.ref b] s) (F0 m pc ls [.int 1]) := by
  intro T hT X
  obtain ⟨fs, hret, hrun, hended, hW, hframe⟩ := X.leave (v := some (.int 1)) (hlocks := hlocks) (fun h => by rw [hr] at h; cases h)
  have hmeth' : T.vm.method? m = some meth := X.method'
  refine ⟨T.setFrames fs, ?_, .returned (some (.int 1)), hrun, hended, rfl, ⟨_, rfl⟩, hW, hframe⟩
  jvm_step X.here [X.here.top, hx, hb, hdg, hmeth', hr, ret, narrow_b1]
  (try refine ⟨rfl, ?_⟩); (try refine ⟨rfl, ?_⟩)
  first | (intro acts; rw [hret _ acts rfl rfl rfl]) | rw [hret _ _ rfl rfl rfl]
  exact Steps.refl _
/-- what holds at the law's entry: the machine, the code, the tables' words (any of lw_tbl by 'hts w (by decide +kernel)'), the script of L ints xs at the cell b, what the Statement gives of the start (any of its parts by flat_of_before) -/
def lw_At (p : Program) (s : State) (m : MethodId) (meth : Method) (c : Code) (b L : Nat) (xs : Nat → Int32) : Prop :=
  p.tables.exec = Jvm.exec ∧ c.code = code ∧ meth.sig.returnType = ret ∧ c.maxLocals = 4 ∧ s.vm.findClass R_law = some m.cls ∧ (∀ w ∈ lw_tbl, w.before #[Value.ref b] s = true) ∧ va_X b L xs s s.heap ∧ b < s.heap.size ∧ meth.locks = false ∧ (Jvm.Cond.and given_1 narrow_1).before #[Value.ref b] s = true
theorem X_inst : ∀ (ci : Nat) (q : vw_C), X_cl[ci]? = some q → Cond.instantiable q.1 q.2.2 ∈ lw_g := by
  have h : X_wd (X_K2.getD 0 (0, 0)).1 (.instantiable RX0 8) = true ∧ X_wd (X_K2.getD 1 (0, 0)).1 (.instantiable RX1 8) = true ∧ X_wd (X_K2.getD 2 (0, 0)).1 (.instantiable RX2 13) = true ∧ X_wd (X_K2.getD 3 (0, 0)).1 (.instantiable RX3 7) = true ∧ X_wd (X_K2.getD 4 (0, 0)).1 (.instantiable RX4 4) = true ∧ X_wd (X_K2.getD 5 (0, 0)).1 (.instantiable RX5 7) = true
      ∧ X_wd (X_K2.getD 6 (0, 0)).1 (.instantiable RX6 3) = true ∧ X_wd (X_K2.getD 7 (0, 0)).1 (.instantiable RX7 2) = true ∧ X_wd (X_K2.getD 8 (0, 0)).1 (.instantiable RX8 15) = true ∧ X_wd (X_K2.getD 9 (0, 0)).1 (.instantiable RX9 7) = true ∧ X_wd (X_K2.getD 10 (0, 0)).1 (.instantiable RX10 9) = true ∧ X_wd (X_K2.getD 11 (0, 0)).1 (.instantiable RX11 72) = true := by decide +kernel
  obtain ⟨h0, h1, h2, h3, h4, h5, h6, h7, h8, h9, h10, h11⟩ := h
  intro ci q hq
  match ci, hq with
  | 0, hq => cases hq; exact X_wd_in h0
  | 1, hq => cases hq; exact X_wd_in h1
  | 2, hq => cases hq; exact X_wd_in h2
  | 3, hq => cases hq; exact X_wd_in h3
  | 4, hq => cases hq; exact X_wd_in h4
  | 5, hq => cases hq; exact X_wd_in h5
  | 6, hq => cases hq; exact X_wd_in h6
  | 7, hq => cases hq; exact X_wd_in h7
  | 8, hq => cases hq; exact X_wd_in h8
  | 9, hq => cases hq; exact X_wd_in h9
  | 10, hq => cases hq; exact X_wd_in h10
  | 11, hq => cases hq; exact X_wd_in h11
  | ci + 12, hq => simp [X_cl] at hq
def X_S0 : X_S := (fun _ => X_no, 1, 0)
theorem X_arr_of {s : State} {ty : FieldType} {A : Array Value} (h : (Cond.arrayClass ty).before A s = true) (hp : ∀ C, ty ≠ .object C) : ∃ cA : ClassId, ArrOfT s cA ty ∧ va_RA s cA ty := by
  obtain ⟨c, k, comp, h1, h2, h3⟩ := Cond.arrayClass_spec h
  refine ⟨c, fun n z => ⟨fun k h => (by cases h), k, h2, comp, h3⟩, ?_⟩
  cases ty <;> first
    | exact h1
    | exact absurd rfl (hp _)
theorem X_tables {s : State} {A : Array Value} (hts : ∀ w ∈ lw_tbl, w.before A s = true) : ∃ (D : va_G) (cA : FieldType → ClassId), X_K D cA s := by
  have hg : ∀ w ∈ lw_g, w.before A s = true := fun w hw => hts w (List.mem_filter.mp hw).1
  have hK1 : ∀ ci : Nat, ∃ d : ClassId × (Nat → Nat), ∀ q, X_cl[ci]? = some q → u_Kn s q.1 q.2.1 q.2.2 d.1 d.2 := by
    intro ci
    cases h : X_cl[ci]? with
    | none => exact ⟨(0, fun _ => 0), fun q hq => by cases hq⟩
    | some q =>
      obtain ⟨cC, iS, hk⟩ := u_known (C := q.1) (T := q.2.1) (N := q.2.2) hg (X_clook ci q h).1 (hg _ (X_inst ci q h))
      exact ⟨(cC, iS), fun q' hq => by cases hq; exact hk⟩
  obtain ⟨w1, w2, w3, w4⟩ := X_w_ap
  obtain ⟨c1, a1⟩ := X_arr_of (hg _ (X_wd_in w1)) (fun C h => by cases h)
  obtain ⟨c2, a2⟩ := X_arr_of (hg _ (X_wd_in w2)) (fun C h => by cases h)
  obtain ⟨c3, a3⟩ := X_arr_of (hg _ (X_wd_in w3)) (fun C h => by cases h)
  obtain ⟨c4, a4⟩ := X_arr_of (hg _ (X_wd_in w4)) (fun C h => by cases h)
  have hao : (Cond.arrayOver (.object RX8)).before A s = true := hts _ (List.mem_of_getElem? X_w_ao)
  obtain ⟨comp, c5, k5, g1, g2, g3, g4, g5⟩ := Cond.arrayOver_spec hao
  refine ⟨(fun ci => (Classical.choose (hK1 ci)).1, fun ci => (Classical.choose (hK1 ci)).2), fun ty => if ty = .int then c1 else if ty = .long then c2 else if ty = .byte then c3 else if ty = .boolean then c4 else c5, fun ci q hq => Classical.choose_spec (hK1 ci) q hq, fun ty hty => ?_, fun w hw => ?_, va_AO.of hao⟩
  · simp only [X_tys, List.mem_cons, List.not_mem_nil, or_false] at hty
    rcases hty with rfl | rfl | rfl | rfl | rfl
    · exact a1
    · exact a2
    · exact a3
    · exact a4
    · exact ⟨fun N z => ⟨(fun k h => by cases h), k5, g3, comp, g4⟩, k5, comp, g3, g4, g1, g5⟩
  · have h1 := hts w (List.mem_filter.mp hw).1
    rcases X_nest_two w hw with ⟨a, i, b, n, d, hh, rfl⟩ | ⟨a, i, x, hh, rfl⟩
    · exact va_Nw.of rfl h1
    · exact va_Nw.of rfl h1
set_option maxHeartbeats 1000000 in
/-- the law's walk, out of a run of the small machine -/
theorem X_law_run {p : Program} {e : Env} {s : State} {m : MethodId} {below : List Frame} {meth : Method} {c : Code} (l : Launch) {b L : Nat} {xs : Nat → Int32} (C0 : lw_At p s m meth c b L xs) {n : Nat} {S' : X_S}
    (hrun : X_run (L, xs) n X_lawj (0, [(0, .ref 0)], [], X_S0) = some (some (.int 1), S')) (hn1 : S'.2.1 ≤ 600000) (hn2 : S'.2.2 ≤ 7302250) :
    W p l e room_1 s m #[Value.ref b] below meth c s.heap [] 0 0 (lw_Z below #[Value.ref b] s) (entryFrame m ([Value.ref b] : List Value).toArray (X_nL X_lawj)) := by
  obtain ⟨hx, hb, hr, hml, hown, hts, hX, hbl, hlocks, hgv⟩ := C0
  obtain ⟨scr, hs1, hs2, hs3, hs4, hs5⟩ := hX
  obtain ⟨D, cA, hK⟩ := X_tables hts
  have hR : X_Rl b s.heap.size scr D cA X_S0 s.heap := ⟨hbl, rfl, Nat.one_pos, hs1, rfl, fun k h1 h2 => absurd h2 (by show ¬ k < 1; omega), fun k _ => rfl⟩
  have C : X_Cx scr D cA p room_1 s m #[Value.ref b] meth c X_lawj := ⟨hx, hb, hr, hml, hown, fun w hw => hts w (List.mem_filter.mp hw).1, hlocks, fun q => absurd q (by decide), hK, Nat.le_of_ble_eq_true rfl, Nat.le_of_ble_eq_true rfl, fun _ => ⟨hs2, hs3⟩⟩
  have hl := lv_entry ([.ref b]) (n := X_nL X_lawj) (Nat.le_of_ble_eq_true rfl)
  rw [lg_entry_eq]
  generalize (lg_sl ([.ref b]) ++ List.replicate (X_nL X_lawj - (lg_sl ([.ref b])).length) Slot.unset).toArray = ls at hl ⊢
  have hl : lv_has ls (X_nL X_lawj) (X_cvl (X_ad b s.heap.size) [(0, .ref 0)]) := hl
  have key := X_walk (L, xs) l b s.heap.size scr D cA ⟨hs4, hs5⟩ n X_lawj (0, [(0, .ref 0)], [], X_S0) _ S' hrun p e room_1 s m #[Value.ref b] below meth c s.heap [] ls 1 0 (lw_Z below #[Value.ref b] s) C hl hR (fun q hq => by cases hq) (Nat.le_refl _) (Nat.le_refl _) (Nat.le_trans (Nat.sub_le _ _) hn1) hn2 ?_
  · exact key
  · intro row ls2 st lsA' H' locs' hc hs hR' hq'
    obtain ⟨pc, ⟨i, nn⟩, ax⟩ := row
    have hd := X_chk_dec hc
    cases i with
    | ireturn =>
      simp only [X_cstep] at hs
      split at hs
      · rename_i x
        split at hs
        · rename_i ty hty
          split at hs
          · cases hs
            refine va_forget hq' ?_
            refine W.widen (k := 600000) (n := 7302250) (Nat.le_trans (Nat.sub_le _ _) hn1) (Nat.le_trans (Nat.sub_le _ _) hn2) ?_
            exact lw_ret hx hb hr hlocks hd
          · cases hs
        · cases hs
      · cases hs
    | lreturn =>
      simp only [X_cstep] at hs
      repeat' split at hs
      all_goals cases hs
    | return_ =>
      simp only [X_cstep] at hs
      repeat' split at hs
      all_goals cases hs
    | invokevirtual idx =>
      simp only [X_cstep] at hs
      repeat' split at hs
      all_goals cases hs
    | invokespecial idx =>
      simp only [X_cstep] at hs
      repeat' split at hs
      all_goals cases hs
    | invokestatic idx =>
      simp only [X_cstep] at hs
      repeat' split at hs
      all_goals cases hs
    | _ => cases hs
end
section
/-! runs that end, with what holds at their end -/
theorem X_run_mono {sc : X_Sc} : ∀ (n m j : Nat) (F : X_F) (r : Option Value × X_S), n ≤ m → X_run sc n j F = some r → X_run sc m j F = some r := by
  intro n
  induction n with
  | zero => intro m j F r _ h; cases h
  | succ n ih =>
    intro m j F r hm h
    cases m with
    | zero => omega
    | succ m =>
      unfold X_run at h ⊢
      cases hs : X_step sc j F with
      | none => rw [hs] at h; cases h
      | some O =>
        rw [hs] at h
        rcases O with F' | ⟨k, as, pc, ls, st, S⟩ | q
        · exact ih m j F' r (by omega) h
        · simp only at h ⊢
          cases h1 : X_run sc n k (0, lv_args 0 as, [], S) with
          | none => rw [h1] at h; cases h
          | some v1 =>
            obtain ⟨v, S'⟩ := v1
            rw [h1] at h
            rw [ih m k _ _ (by omega) h1]
            exact ih m j _ r (by omega) h
        · exact h
def X_T (sc : X_Sc) (j : Nat) (F : X_F) (Q : Option Value → X_S → Prop) : Prop := ∃ n v S', X_run sc n j F = some (v, S') ∧ Q v S'
section X_TR
variable {sc : X_Sc} {j : Nat} {F F' : X_F} {Q Q' : Option Value → X_S → Prop} {pc pc' : Nat} {ls ls' : X_L} {st st' : List Value} {S : X_S}
theorem T_go (h : X_step sc j F = some (.inl F')) (k : X_T sc j F' Q) : X_T sc j F Q := by
  obtain ⟨n, v, S', h1, h2⟩ := k
  refine ⟨n + 1, v, S', ?_, h2⟩
  unfold X_run
  rw [h]
  exact h1
theorem T_ret {v : Option Value} (h : X_step sc j F = some (.inr (.inr (v, S)))) (hq : Q v S) : X_T sc j F Q := by
  refine ⟨1, v, S, ?_, hq⟩
  unfold X_run
  rw [h]
theorem T_call {k : Nat} {as : List Value} (h : X_step sc j F = some (.inr (.inl (k, as, (pc, ls, st, S))))) (hk : X_T sc k (0, lv_args 0 as, [], S) (fun v S' => X_T sc j (pc, ls, v.toList ++ st, S') Q)) : X_T sc j F Q := by
  obtain ⟨n, v, S', h1, m, v2, S2, h3, h4⟩ := hk
  refine ⟨(n + m) + 1, v2, S2, ?_, h4⟩
  unfold X_run
  rw [h]
  simp only
  rw [X_run_mono n (n + m) _ _ _ (Nat.le_add_right _ _) h1]
  exact X_run_mono m (n + m) _ _ _ (Nat.le_add_left _ _) h3
theorem T_mono (h : X_T sc j F Q') (hq : ∀ v S', Q' v S' → Q v S') : X_T sc j F Q := by
  obtain ⟨n, v, S', h1, h2⟩ := h
  exact ⟨n, v, S', h1, hq _ _ h2⟩
/-- an instruction that leaves the heap alone -/
theorem T_p {row : X_Row} {nL : Nat} (hr : X_row j pc = some row) (hn : X_nL j = nL) (h : X_pstep nL row ls st = some (pc', ls', st')) (k : X_T sc j (pc', ls', st', S) Q) : X_T sc j (pc, ls, st, S) Q := by
  refine T_go ?_ k
  unfold X_step
  subst hn
  simp only [hr, h]
theorem X_pn_get {nL pc n idx : Nat} {ax : Nat × Nat × Nat} {ls : X_L} {st : List Value} : X_pstep nL (pc, (.getfield idx, n), ax) ls st = none := rfl
theorem T_h {row : X_Row} (hr : X_row j pc = some row) (hp : X_pstep (X_nL j) row ls st = none) {S1 : X_S} (h : X_hstep sc row st S = some (pc', st', S1)) (k : X_T sc j (pc', ls, st', S1) Q) : X_T sc j (pc, ls, st, S) Q := by
  refine T_go ?_ k
  unfold X_step
  simp only [hr, hp, h]
theorem T_c {row : X_Row} (hr : X_row j pc = some row) (hp : X_pstep (X_nL j) row ls st = none) (hh : X_hstep sc row st S = none) {O : X_O} (h : X_cstep j row ls st S = some O) : X_step sc j (pc, ls, st, S) = some O := by
  unfold X_step
  simp only [hr, hp, hh, h]
theorem T_get {n idx q ci c k w : Nat} {r fs : List Value} {v : Value} (hr : X_row j pc = some (pc, (.getfield idx, n), (ci, k, w))) (h : S.1 q = .inr (c, fs)) (hc : c = ci) (hv : fs[k]? = some v) (hp : pc + 3 = pc') (kk : X_T sc j (pc', ls, v :: r, S) Q) : X_T sc j (pc, ls, .ref q :: r, S) Q := by
  subst hp
  refine T_h hr rfl ?_ kk
  simp only [X_hstep, h, hc, if_true, hv]
theorem T_put {n idx q ci c k w : Nat} {r fs fs' : List Value} {v : Value} (hr : X_row j pc = some (pc, (.putfield idx, n), (ci, k, w))) (h : S.1 q = .inr (c, fs)) (hc : c = ci) (hl : k < fs.length) (hf : X_fit (X_ty ci k) v = true) (hs : fs.set k v = fs') (hp : pc + 3 = pc')
    (kk : ∀ S' : X_S, S'.1 q = .inr (ci, fs') → (∀ r, r ≠ q → S'.1 r = S.1 r) → S'.2 = S.2 → X_T sc j (pc', ls, r, S') Q) : X_T sc j (pc, ls, v :: .ref q :: r, S) Q := by
  subst hp; subst hc; subst hs
  refine T_h hr rfl (S1 := (X_upd S.1 q (.inr (c, fs.set k v)), S.2)) ?_ (kk _ (by simp [X_upd]) (fun r hr => by simp [X_upd, hr]) rfl)
  simp only [X_hstep, h]
  rw [if_pos ⟨trivial, hl, hf⟩]
theorem T_iald {n q k0 : Nat} {ax : Nat × Nat} {i : Int32} {f : Nat → Int32} {r : List Value} {x : Int32} (hr : X_row j pc = some (pc, (.iaload, n), (0, ax))) (h : S.1 q = .inl (.int, k0, .inl f)) (h0 : ¬ (i < 0 ∨ k0 ≤ i.toNatClampNeg)) (hx : f i.toNatClampNeg = x) (hp : pc + 1 = pc') (kk : X_T sc j (pc', ls, .int x :: r, S) Q) : X_T sc j (pc, ls, .int i :: .ref q :: r, S) Q := by
  subst hp; subst hx
  refine T_h hr rfl ?_ kk
  simp only [X_hstep, if_true, h]
  rw [if_neg h0]
theorem T_sald {n a : Nat} {ax : Nat × Nat} {i : Int32} {r : List Value} {x : Int32} (hr : X_row j pc = some (pc, (.iaload, n), (a + 1, ax))) (h0 : ¬ (i < 0 ∨ sc.1 ≤ i.toNatClampNeg)) (hx : sc.2 i.toNatClampNeg = x) (hp : pc + 1 = pc') (kk : X_T sc j (pc', ls, .int x :: r, S) Q) : X_T sc j (pc, ls, .int i :: .ref 0 :: r, S) Q := by
  subst hp; subst hx
  refine T_h hr rfl ?_ kk
  simp only [X_hstep, Nat.succ_ne_zero, if_false, if_true]
  rw [if_neg h0]
theorem T_slen {n a : Nat} {ax : Nat × Nat} {r : List Value} {x : Int32} (hr : X_row j pc = some (pc, (.arraylength, n), (a + 1, ax))) (hx : Int32.ofNat sc.1 = x) (hp : pc + 1 = pc') (kk : X_T sc j (pc', ls, .int x :: r, S) Q) : X_T sc j (pc, ls, .ref 0 :: r, S) Q := by
  subst hp; subst hx
  refine T_h hr rfl ?_ kk
  simp only [X_hstep]
  rw [if_pos ⟨trivial, Nat.succ_ne_zero _⟩]
theorem T_lald {n q k0 : Nat} {ax : Nat × Nat × Nat} {i : Int32} {f : Nat → Int64} {r : List Value} {x : Int64} (hr : X_row j pc = some (pc, (.laload, n), ax)) (h : S.1 q = .inl (.long, k0, .inr (.inl f))) (h0 : ¬ (i < 0 ∨ k0 ≤ i.toNatClampNeg)) (hx : f i.toNatClampNeg = x) (hp : pc + 1 = pc') (kk : X_T sc j (pc', ls, .long x :: r, S) Q) : X_T sc j (pc, ls, .int i :: .ref q :: r, S) Q := by
  subst hp; subst hx
  refine T_h hr rfl ?_ kk
  simp only [X_hstep, h]
  rw [if_neg h0]
theorem T_bald {n q k0 : Nat} {ax : Nat × Nat × Nat} {i : Int32} {f : Nat → Int32} {r : List Value} {x : Int32} (hr : X_row j pc = some (pc, (.baload, n), ax)) (h : S.1 q = .inl (.byte, k0, .inl f)) (h0 : ¬ (i < 0 ∨ k0 ≤ i.toNatClampNeg)) (hx : f i.toNatClampNeg = x) (hp : pc + 1 = pc') (kk : X_T sc j (pc', ls, .int x :: r, S) Q) : X_T sc j (pc, ls, .int i :: .ref q :: r, S) Q := by
  subst hp; subst hx
  refine T_h hr rfl ?_ kk
  simp only [X_hstep, h]
  rw [if_neg h0]
theorem T_zald {n q k0 : Nat} {ax : Nat × Nat × Nat} {i : Int32} {f : Nat → Int32} {r : List Value} {x : Int32} (hr : X_row j pc = some (pc, (.baload, n), ax)) (h : S.1 q = .inl (.boolean, k0, .inl f)) (h0 : ¬ (i < 0 ∨ k0 ≤ i.toNatClampNeg)) (hx : f i.toNatClampNeg = x) (hp : pc + 1 = pc') (kk : X_T sc j (pc', ls, .int x :: r, S) Q) : X_T sc j (pc, ls, .int i :: .ref q :: r, S) Q := by
  subst hp; subst hx
  refine T_h hr rfl ?_ kk
  simp only [X_hstep, h]
  rw [if_neg h0]
theorem T_aald {n q k0 : Nat} {ax : Nat × Nat × Nat} {i : Int32} {f : Nat → Option Nat} {r : List Value} {x : Nat} (hr : X_row j pc = some (pc, (.aaload, n), ax)) (h : S.1 q = .inl (.short, k0, .inr (.inr (.inr (.inr f))))) (h0 : ¬ (i < 0 ∨ k0 ≤ i.toNatClampNeg)) (hx : f i.toNatClampNeg = some x) (hp : pc + 1 = pc') (kk : X_T sc j (pc', ls, .ref x :: r, S) Q) : X_T sc j (pc, ls, .int i :: .ref q :: r, S) Q := by
  subst hp
  have kk' : X_T sc j (pc + 1, ls, va_rf (f i.toNatClampNeg) :: r, S) Q := by rw [hx]; exact kk
  refine T_h hr rfl ?_ kk'
  simp only [X_hstep, h]
  rw [if_neg h0]
theorem T_iast {n q k0 : Nat} {ax : Nat × Nat × Nat} {i x : Int32} {f : Nat → Int32} {r : List Value} (hr : X_row j pc = some (pc, (.iastore, n), ax)) (h : S.1 q = .inl (.int, k0, .inl f)) (h0 : ¬ (i < 0 ∨ k0 ≤ i.toNatClampNeg)) (hp : pc + 1 = pc')
    (kk : ∀ S' : X_S, S'.1 q = .inl (.int, k0, .inl (upd f i.toNatClampNeg x)) → (∀ r, r ≠ q → S'.1 r = S.1 r) → S'.2 = S.2 → X_T sc j (pc', ls, r, S') Q) : X_T sc j (pc, ls, .int x :: .int i :: .ref q :: r, S) Q := by
  subst hp
  refine T_h hr rfl (S1 := (X_upd S.1 q (.inl (.int, k0, .inl (upd f i.toNatClampNeg x))), S.2)) ?_ (kk _ (by simp [X_upd]) (fun r hr => by simp [X_upd, hr]) rfl)
  simp only [X_hstep, h]
  rw [if_neg h0]
theorem T_last {n q k0 : Nat} {ax : Nat × Nat × Nat} {i : Int32} {x : Int64} {f : Nat → Int64} {r : List Value} (hr : X_row j pc = some (pc, (.lastore, n), ax)) (h : S.1 q = .inl (.long, k0, .inr (.inl f))) (h0 : ¬ (i < 0 ∨ k0 ≤ i.toNatClampNeg)) (hp : pc + 1 = pc')
    (kk : ∀ S' : X_S, S'.1 q = .inl (.long, k0, .inr (.inl (vp_updL f i.toNatClampNeg x))) → (∀ r, r ≠ q → S'.1 r = S.1 r) → S'.2 = S.2 → X_T sc j (pc', ls, r, S') Q) : X_T sc j (pc, ls, .long x :: .int i :: .ref q :: r, S) Q := by
  subst hp
  refine T_h hr rfl (S1 := (X_upd S.1 q (.inl (.long, k0, .inr (.inl (vp_updL f i.toNatClampNeg x)))), S.2)) ?_ (kk _ (by simp [X_upd]) (fun r hr => by simp [X_upd, hr]) rfl)
  simp only [X_hstep, h]
  rw [if_neg h0]
theorem T_bast {n q k0 : Nat} {ax : Nat × Nat × Nat} {i x : Int32} {f : Nat → Int32} {r : List Value} (hr : X_row j pc = some (pc, (.bastore, n), ax)) (h : S.1 q = .inl (.byte, k0, .inl f)) (h0 : ¬ (i < 0 ∨ k0 ≤ i.toNatClampNeg)) (hp : pc + 1 = pc')
    (kk : ∀ S' : X_S, S'.1 q = .inl (.byte, k0, .inl (upd f i.toNatClampNeg (vp_nar .byte x))) → (∀ r, r ≠ q → S'.1 r = S.1 r) → S'.2 = S.2 → X_T sc j (pc', ls, r, S') Q) : X_T sc j (pc, ls, .int x :: .int i :: .ref q :: r, S) Q := by
  subst hp
  refine T_h hr rfl (S1 := (X_upd S.1 q (.inl (.byte, k0, .inl (upd f i.toNatClampNeg (vp_nar .byte x)))), S.2)) ?_ (kk _ (by simp [X_upd]) (fun r hr => by simp [X_upd, hr]) rfl)
  simp only [X_hstep, h]
  rw [if_neg h0]
theorem T_zast {n q k0 : Nat} {ax : Nat × Nat × Nat} {i x : Int32} {f : Nat → Int32} {r : List Value} (hr : X_row j pc = some (pc, (.bastore, n), ax)) (h : S.1 q = .inl (.boolean, k0, .inl f)) (h0 : ¬ (i < 0 ∨ k0 ≤ i.toNatClampNeg)) (hp : pc + 1 = pc')
    (kk : ∀ S' : X_S, S'.1 q = .inl (.boolean, k0, .inl (upd f i.toNatClampNeg (vp_nar .boolean x))) → (∀ r, r ≠ q → S'.1 r = S.1 r) → S'.2 = S.2 → X_T sc j (pc', ls, r, S') Q) : X_T sc j (pc, ls, .int x :: .int i :: .ref q :: r, S) Q := by
  subst hp
  refine T_h hr rfl (S1 := (X_upd S.1 q (.inl (.boolean, k0, .inl (upd f i.toNatClampNeg (vp_nar .boolean x)))), S.2)) ?_ (kk _ (by simp [X_upd]) (fun r hr => by simp [X_upd, hr]) rfl)
  simp only [X_hstep, h]
  rw [if_neg h0]
/-- calls: the facts of the method that is called are na, ci, nL -/
theorem T_cv {n idx k w na ci nL q : Nat} {as r fs : List Value} (hr : X_row j pc = some (pc, (.invokevirtual idx, n), (k, w, 0))) (hna : X_na k = na) (hci : X_ci k = ci) (hnL : X_nL k = nL) (hpop : X_pop na st = some (as, .ref q :: r)) (h : S.1 q = .inr (ci, fs)) (h8 : (r.map fun v => v.category).sum ≤ 8) (hn : 1 + (as.map fun v => v.category).sum ≤ nL) (hp : pc + 3 = pc') (ha : lv_args 0 (.ref q :: as) = ls')
    (kk : X_T sc k (0, ls', [], S) (fun v S' => X_T sc j (pc', ls, v.toList ++ r, S') Q)) : X_T sc j (pc, ls, st, S) Q := by
  subst hp; subst ha; subst hna; subst hci; subst hnL
  refine T_call (T_c hr rfl rfl ?_) kk
  simp only [X_cstep, hpop, h]
  rw [if_pos ⟨trivial, h8, hn⟩]
theorem T_cs {n idx k w na nL : Nat} {as r : List Value} (hr : X_row j pc = some (pc, (.invokestatic idx, n), (k, w, 0))) (hk : k ≠ 9998) (hna : X_na k = na) (hnL : X_nL k = nL) (hpop : X_pop na st = some (as, r)) (h8 : (r.map fun v => v.category).sum ≤ 8) (hn : (as.map fun v => v.category).sum ≤ nL) (hp : pc + 3 = pc') (ha : lv_args 0 as = ls')
    (kk : X_T sc k (0, ls', [], S) (fun v S' => X_T sc j (pc', ls, v.toList ++ r, S') Q)) : X_T sc j (pc, ls, st, S) Q := by
  subst hp; subst ha; subst hna; subst hnL
  refine T_call (T_c hr rfl ?_ ?_) kk
  · simp only [X_hstep]
    rw [if_neg hk]
  · simp only [X_cstep, hpop]
    rw [if_pos ⟨hk, h8, hn⟩]
theorem T_ci {n idx k w na nL q : Nat} {as r : List Value} (hr : X_row j pc = some (pc, (.invokespecial idx, n), (k, w, 0))) (hk : k ≠ 9999) (hna : X_na k = na) (hnL : X_nL k = nL) (hpop : X_pop na st = some (as, .ref q :: r)) (h8 : (r.map fun v => v.category).sum ≤ 8) (hn : 1 + (as.map fun v => v.category).sum ≤ nL) (hp : pc + 3 = pc') (ha : lv_args 0 (.ref q :: as) = ls')
    (kk : X_T sc k (0, ls', [], S) (fun v S' => X_T sc j (pc', ls, v.toList ++ r, S') Q)) : X_T sc j (pc, ls, st, S) Q := by
  subst hp; subst ha; subst hna; subst hnL
  refine T_call (T_c hr rfl ?_ ?_) kk
  · simp only [X_hstep]
    split
    · rw [if_neg (fun z => hk z.1)]
    · rfl
  · simp only [X_cstep, hpop]
    rw [if_pos ⟨hk, h8, hn⟩]
theorem T_iret {n : Nat} {ax : Nat × Nat × Nat} {x : Int32} {ty : FieldType} (hr : X_row j pc = some (pc, (.ireturn, n), ax)) (ht : X_rt j = some ty) (hf : X_fit ty (.int x) = true) (hq : Q (some (.int x)) S) : X_T sc j (pc, ls, [.int x], S) Q := by
  refine T_ret (T_c hr rfl rfl ?_) hq
  simp only [X_cstep, ht, hf, if_true]
theorem T_lret {n : Nat} {ax : Nat × Nat × Nat} {x : Int64} {ty : FieldType} (hr : X_row j pc = some (pc, (.lreturn, n), ax)) (ht : X_rt j = some ty) (hf : X_fit ty (.long x) = true) (hq : Q (some (.long x)) S) : X_T sc j (pc, ls, [.long x], S) Q := by
  refine T_ret (T_c hr rfl rfl ?_) hq
  simp only [X_cstep, ht, hf, if_true]
theorem T_vret {n : Nat} {ax : Nat × Nat × Nat} (hr : X_row j pc = some (pc, (.return_, n), ax)) (ht : X_rt j = none) (hq : Q none S) : X_T sc j (pc, ls, [], S) Q := by
  refine T_ret (T_c hr rfl rfl ?_) hq
  simp only [X_cstep, ht]
theorem T_obj {n idx q w : Nat} {r : List Value} (hr : X_row j pc = some (pc, (.invokespecial idx, n), (9999, w, 0))) (h8 : (r.map fun v => v.category).sum ≤ 8) (hp : pc + 3 = pc') (k : X_T sc j (pc', ls, r, S) Q) : X_T sc j (pc, ls, .ref q :: r, S) Q := by
  subst hp
  refine T_h hr rfl ?_ k
  simp only [X_hstep]
  rw [if_pos ⟨trivial, h8⟩]
/-- an int on the stack by a name -/
theorem T_nm {x : Int32} {r : List Value} (k : ∀ y : Int32, y = x → X_T sc j (pc, ls, .int y :: r, S) Q) : X_T sc j (pc, ls, .int x :: r, S) Q := k x rfl
theorem T_nml {x : Int64} {r : List Value} (k : ∀ y : Int64, y = x → X_T sc j (pc, ls, .long y :: r, S) Q) : X_T sc j (pc, ls, .long x :: r, S) Q := k x rfl
end X_TR
/-- only the law reads the script -/
theorem X_step_sc {sc sc' : X_Sc} {j : Nat} (hj : j ≠ X_lawj) (F : X_F) : X_step sc j F = X_step sc' j F := by
  unfold X_step
  cases hr : X_row j F.1 with
  | none => rfl
  | some row =>
    obtain ⟨-, hc⟩ := X_row_chk hr
    have : X_hstep sc row F.2.2.1 F.2.2.2 = X_hstep sc' row F.2.2.1 F.2.2.2 := by
      obtain ⟨pc, ⟨i, n⟩, ax⟩ := row
      cases i with
      | iaload =>
        have h0 : ax.1 = 0 := by
          unfold X_chk at hc
          simp only [Bool.and_eq_true, Bool.or_eq_true, decide_eq_true_eq] at hc
          exact hc.2.resolve_right hj
        simp only [X_hstep, h0, if_true]
      | arraylength =>
        have h0 : ax.1 = 0 := by
          unfold X_chk at hc
          simp only [Bool.and_eq_true, Bool.or_eq_true, decide_eq_true_eq] at hc
          exact hc.2.resolve_right hj
        simp only [X_hstep, h0, ne_eq, not_true_eq_false, and_false, if_false]
      | _ => rfl
    simp only [this]
theorem X_step_to {sc : X_Sc} {j k pc : Nat} {F : X_F} {as : List Value} {ls : X_L} {st : List Value} {S : X_S} (h : X_step sc j F = some (.inr (.inl (k, as, (pc, ls, st, S))))) : k < X_lawj := by
  unfold X_step at h
  cases hr : X_row j F.1 with
  | none => rw [hr] at h; cases h
  | some row =>
    rw [hr] at h
    obtain ⟨-, hc⟩ := X_row_chk hr
    simp only at h
    split at h
    · cases h
    · split at h
      · cases h
      · obtain ⟨pc, ⟨i, n⟩, ax⟩ := row
        have key : ∀ idx, X_cw j (X_o j) idx ax = true → ax.1 < X_lawj := fun idx h => (X_cw_spec h).2.2.2.1
        cases i with
        | invokevirtual idx =>
          have hw : X_cw j (X_o j) idx ax = true := by
            unfold X_chk at hc
            simp only [Bool.and_eq_true] at hc
            exact hc.2.1
          simp only [X_cstep] at h
          repeat' split at h
          all_goals first
            | (cases h; done)
            | (cases h; exact key _ hw)
        | invokespecial idx =>
          simp only [X_cstep] at h
          split at h
          · split at h
            · rename_i h99
              have hw : X_cw j (X_o j) idx ax = true := by
                unfold X_chk at hc
                simp only [Bool.and_eq_true, h99.1, if_false] at hc
                exact hc.2.1
              cases h
              exact key _ hw
            · cases h
          · cases h
        | invokestatic idx =>
          simp only [X_cstep] at h
          split at h
          · split at h
            · rename_i h99
              have hw : X_cw j (X_o j) idx ax = true := by
                unfold X_chk at hc
                simp only [Bool.and_eq_true, h99.1, if_false] at hc
                exact hc.2.1
              cases h
              exact key _ hw
            · cases h
          · cases h
        | _ =>
          simp only [X_cstep] at h
          repeat' split at h
          all_goals cases h
theorem X_run_sc {sc sc' : X_Sc} : ∀ (n j : Nat), j ≠ X_lawj → ∀ F : X_F, X_run sc n j F = X_run sc' n j F := by
  intro n
  induction n with
  | zero => intro j _ F; rfl
  | succ n ih =>
    intro j hj F
    unfold X_run
    rw [X_step_sc (sc := sc) (sc' := sc') hj F]
    cases hs : X_step sc' j F with
    | none => rfl
    | some O =>
      rcases O with F' | ⟨k, as, pc, ls, st, S⟩ | q
      · exact ih j hj F'
      · have hk := X_step_to hs
        simp only
        rw [ih k (Nat.ne_of_lt hk)]
        cases X_run sc' n k (0, lv_args 0 as, [], S) with
        | none => rfl
        | some v => exact ih j hj _
      · rfl
theorem T_sc {sc sc' : X_Sc} {j : Nat} {F : X_F} {Q : Option Value → X_S → Prop} (hj : j ≠ X_lawj) (h : X_T sc j F Q) : X_T sc' j F Q := by
  obtain ⟨n, v, S', h1, h2⟩ := h
  exact ⟨n, v, S', by rw [X_run_sc (sc := sc') (sc' := sc) n j hj F]; exact h1, h2⟩
theorem X_cd_ne (x y : Int32) : X_cd .ne x y = !X_cd .eq x y := by simp [X_cd]
theorem X_cd_ge (x y : Int32) : X_cd .ge x y = !X_cd .lt x y := by
  unfold X_cd
  rw [← decide_not]
  exact decide_eq_decide.mpr Int32.not_lt.symm
theorem X_cd_gt (x y : Int32) : X_cd .gt x y = X_cd .lt y x := rfl
theorem X_cd_le (x y : Int32) : X_cd .le x y = !X_cd .lt y x := by
  unfold X_cd
  rw [← decide_not]
  exact decide_eq_decide.mpr Int32.not_lt.symm
section X_TB
variable {sc : X_Sc} {j : Nat} {Q : Option Value → X_S → Prop} {pc pc' t : Nat} {ls : X_L} {r : List Value} {S : X_S}
theorem T_b1t {cd : Jvm.ClassFile.Cond} {off : Int} {n : Nat} {ax : Nat × Nat × Nat} {x : Int32} (hr : X_row j pc = some (pc, (.ifCond cd off, n), ax)) (hc : X_cd cd x 0 = true) (ht : X_tg pc off = some t) (k : X_T sc j (t, ls, r, S) Q) : X_T sc j (pc, ls, .int x :: r, S) Q := by
  refine T_p hr rfl ?_ k
  simp only [X_pstep, X_br, ht, hc, if_true]
theorem T_b1f {cd : Jvm.ClassFile.Cond} {off : Int} {n : Nat} {ax : Nat × Nat × Nat} {x : Int32} (hr : X_row j pc = some (pc, (.ifCond cd off, n), ax)) (hc : X_cd cd x 0 = false) (ht : X_tg pc off = some t) (hp : pc + 3 = pc') (k : X_T sc j (pc', ls, r, S) Q) : X_T sc j (pc, ls, .int x :: r, S) Q := by
  subst hp
  refine T_p hr rfl ?_ k
  simp only [X_pstep, X_br, ht, hc, Bool.false_eq_true, if_false]
theorem T_b2t {cd : Jvm.ClassFile.Cond} {off : Int} {n : Nat} {ax : Nat × Nat × Nat} {x y : Int32} (hr : X_row j pc = some (pc, (.if_icmp cd off, n), ax)) (hc : X_cd cd x y = true) (ht : X_tg pc off = some t) (k : X_T sc j (t, ls, r, S) Q) : X_T sc j (pc, ls, .int y :: .int x :: r, S) Q := by
  refine T_p hr rfl ?_ k
  simp only [X_pstep, X_br, ht, hc, if_true]
theorem T_b2f {cd : Jvm.ClassFile.Cond} {off : Int} {n : Nat} {ax : Nat × Nat × Nat} {x y : Int32} (hr : X_row j pc = some (pc, (.if_icmp cd off, n), ax)) (hc : X_cd cd x y = false) (ht : X_tg pc off = some t) (hp : pc + 3 = pc') (k : X_T sc j (pc', ls, r, S) Q) : X_T sc j (pc, ls, .int y :: .int x :: r, S) Q := by
  subst hp
  refine T_p hr rfl ?_ k
  simp only [X_pstep, X_br, ht, hc, Bool.false_eq_true, if_false]
theorem T_b1 {cd : Jvm.ClassFile.Cond} {off : Int} {n : Nat} {ax : Nat × Nat × Nat} {x : Int32} (hr : X_row j pc = some (pc, (.ifCond cd off, n), ax)) (ht : X_tg pc off = some t) (hp : pc + 3 = pc') (kt : X_cd cd x 0 = true → X_T sc j (t, ls, r, S) Q) (kf : X_cd cd x 0 = false → X_T sc j (pc', ls, r, S) Q) : X_T sc j (pc, ls, .int x :: r, S) Q := by
  cases h : X_cd cd x 0 with
  | true => exact T_b1t hr h ht (kt h)
  | false => exact T_b1f hr h ht hp (kf h)
theorem T_b2 {cd : Jvm.ClassFile.Cond} {off : Int} {n : Nat} {ax : Nat × Nat × Nat} {x y : Int32} (hr : X_row j pc = some (pc, (.if_icmp cd off, n), ax)) (ht : X_tg pc off = some t) (hp : pc + 3 = pc') (kt : X_cd cd x y = true → X_T sc j (t, ls, r, S) Q) (kf : X_cd cd x y = false → X_T sc j (pc', ls, r, S) Q) : X_T sc j (pc, ls, .int y :: .int x :: r, S) Q := by
  cases h : X_cd cd x y with
  | true => exact T_b2t hr h ht (kt h)
  | false => exact T_b2f hr h ht hp (kf h)
end X_TB
/-! a closed run, by the kernel -/
def X_ob (c : X_Cell) : Option (Nat × List Value) := match c with
  | .inr o => some o
  | .inl _ => none
theorem X_ob_eq {c : X_Cell} {o : Nat × List Value} (h : X_ob c = some o) : c = .inr o := by
  unfold X_ob at h
  split at h <;> cases h
  rfl
/-- a row's sign and length, and its first components -/
def X_sh (c : X_Cell) : Option (FieldType × Nat × Nat) := match c with
  | .inl (t, n, .inl _) => some (t, n, 0)
  | .inl (t, n, .inr (.inl _)) => some (t, n, 1)
  | .inl (t, n, .inr (.inr (.inr (.inr _)))) => some (t, n, 4)
  | _ => none
theorem X_sh_i {c : X_Cell} {t : FieldType} {n : Nat} (h : X_sh c = some (t, n, 0)) : ∃ f, c = .inl (t, n, .inl f) := by
  unfold X_sh at h
  split at h <;> cases h
  exact ⟨_, rfl⟩
theorem X_sh_l {c : X_Cell} {t : FieldType} {n : Nat} (h : X_sh c = some (t, n, 1)) : ∃ f, c = .inl (t, n, .inr (.inl f)) := by
  unfold X_sh at h
  split at h <;> cases h
  exact ⟨_, rfl⟩
theorem X_sh_q {c : X_Cell} {t : FieldType} {n : Nat} (h : X_sh c = some (t, n, 4)) : ∃ f, c = .inl (t, n, .inr (.inr (.inr (.inr f)))) := by
  unfold X_sh at h
  split at h <;> cases h
  exact ⟨_, rfl⟩
/-- an int row's component -/
def X_a0i (c : X_Cell) (i : Nat) : Option Int32 := match c with
  | .inl (_, _, .inl f) => some (f i)
  | _ => none
abbrev X_sc0 : X_Sc := (0, fun _ => 0)
def X_out (o : Option (Option Value × X_S)) : X_S := match o with
  | some r => r.2
  | none => X_S0
theorem X_out_eq {o : Option (Option Value × X_S)} {v : Option Value} {p : Nat × Nat} (h : o.map (fun r => (r.1, r.2.2)) = some (v, p)) : o = some (v, X_out o) ∧ (X_out o).2 = p := by
  cases o with
  | none => cases h
  | some r =>
    obtain ⟨v', S⟩ := r
    cases h
    exact ⟨rfl, rfl⟩
theorem X_lt_tr {a b c : Int32} (h1 : X_cd .lt a c = false) (h2 : X_cd .lt c b = false) : X_cd .lt a b = false := by
  have h1 := of_decide_eq_false h1
  have h2 := of_decide_eq_false h2
  refine decide_eq_false ?_
  rw [Int32.lt_iff_toInt_lt] at *
  omega
end
section
def X_A0 : X_S := (X_upd X_S0.1 1 (.inr (10, X_df.getD 10 [])), 2, 9)
def X_Ra : Option (Option Value × X_S) := X_run X_sc0 2946 112 (0, [(0, .ref 1)], [], X_A0)
set_option maxRecDepth 1000000 in
theorem X_Ea : X_Ra.map (fun r => (r.1, r.2.2)) = some (none, (530, 97535)) := by decide +kernel
def X_Sa : X_S := X_out X_Ra
def X_B0 : X_S := (X_upd X_Sa.1 530 (.inr (11, X_df.getD 11 [])), 531, 97607)
def X_Rb : Option (Option Value × X_S) := X_run X_sc0 225 161 (0, [(0, .ref 530)], [], X_B0)
set_option maxRecDepth 1000000 in
theorem X_Eb : X_Rb.map (fun r => (r.1, r.2.2)) = some (none, (580, 263990)) := by decide +kernel
def X_Sb : X_S := X_out X_Rb
theorem X_Sb2 : X_Sb.2 = (580, 263990) := (X_out_eq X_Eb).2
set_option maxRecDepth 1000000 in
theorem X_Fob : [X_ob (X_Sb.1 1), X_ob (X_Sb.1 2), X_ob (X_Sb.1 4), X_ob (X_Sb.1 496), X_ob (X_Sb.1 497), X_ob (X_Sb.1 501), X_ob (X_Sb.1 504), X_ob (X_Sb.1 511), X_ob (X_Sb.1 517), X_ob (X_Sb.1 527), X_ob (X_Sb.1 530)] = [some (10, [.ref 2, .ref 4, .ref 250, .ref 496, .ref 501, .ref 504, .ref 511, .ref 517, .ref 527]),
  some (7, [.ref 3, .int 0]),
  some (0, [.int 0, .int 1, .int 0, .ref 5, .ref 6, .ref 7, .ref 8, .ref 9]),
  some (4, [.ref 497, .ref 250, .int 0, .int (-1)]),
  some (3, [.ref 2, .int 0, .int 0, .ref 498, .ref 499, .ref 500, .int 0]),
  some (6, [.int 0, .ref 502, .ref 503]),
  some (5, [.int 0, .ref 505, .ref 506, .ref 507, .ref 508, .ref 509, .ref 510]),
  some (1, [.ref 4, .ref 501, .int 0, .ref 512, .ref 513, .ref 514, .ref 515, .ref 516]),
  some (2, [.ref 511, .ref 501, .ref 504, .int 0, .ref 518, .ref 519, .ref 520, .ref 521, .ref 522, .ref 523, .ref 524, .ref 525, .ref 526]),
  some (9, [.ref 501, .ref 504, .int 0, .int (-1), .ref 528, .ref 529, .int 0]),
  some (11, [.ref 531, .int 0, .ref 532, .int 0, .int 0, .int 0, .int (-1), .int 0, .int 0, .int 0, .int 0, .int 0, .long 0, .ref 533, .ref 534, .ref 535, .ref 536, .ref 537, .ref 538, .ref 539, .ref 540, .ref 541, .ref 542, .ref 543, .ref 544, .ref 545, .ref 546, .ref 547, .int 0, .int 1, .int 0, .int 0, .int 1, .int 0, .ref 548, .ref 549, .ref 550, .ref 551, .int 0, .ref 552, .ref 553, .ref 554, .ref 555, .ref 556, .ref 557, .ref 558, .ref 559, .ref 560, .ref 561, .int 0, .ref 562, .ref 563, .ref 564, .ref 565, .ref 566, .ref 567, .ref 568, .ref 569, .int 0, .ref 570, .ref 571, .ref 572, .ref 573, .ref 574, .ref 575, .ref 576, .ref 577, .ref 578, .int 0, .int 0, .int 0, .ref 579])] := by decide +kernel
set_option maxRecDepth 1000000 in
theorem X_Far : [X_sh (X_Sb.1 3), X_sh (X_Sb.1 531), X_sh (X_Sb.1 8)] = [some (.byte, 2000, 0), some (.byte, 2020, 0), some (.int, 11, 0)] ∧ X_a0i (X_Sb.1 8) 0 = some 1 := by decide +kernel
theorem X_fo1 : X_Sb.1 1 = .inr (10, [.ref 2, .ref 4, .ref 250, .ref 496, .ref 501, .ref 504, .ref 511, .ref 517, .ref 527]) := X_ob_eq (by have h := congrArg (fun l => l.getD 0 none) X_Fob; exact h)
theorem X_fo2 : X_Sb.1 2 = .inr (7, [.ref 3, .int 0]) := X_ob_eq (by have h := congrArg (fun l => l.getD 1 none) X_Fob; exact h)
theorem X_fo4 : X_Sb.1 4 = .inr (0, [.int 0, .int 1, .int 0, .ref 5, .ref 6, .ref 7, .ref 8, .ref 9]) := X_ob_eq (by have h := congrArg (fun l => l.getD 2 none) X_Fob; exact h)
theorem X_fo496 : X_Sb.1 496 = .inr (4, [.ref 497, .ref 250, .int 0, .int (-1)]) := X_ob_eq (by have h := congrArg (fun l => l.getD 3 none) X_Fob; exact h)
theorem X_fo497 : X_Sb.1 497 = .inr (3, [.ref 2, .int 0, .int 0, .ref 498, .ref 499, .ref 500, .int 0]) := X_ob_eq (by have h := congrArg (fun l => l.getD 4 none) X_Fob; exact h)
theorem X_fo501 : X_Sb.1 501 = .inr (6, [.int 0, .ref 502, .ref 503]) := X_ob_eq (by have h := congrArg (fun l => l.getD 5 none) X_Fob; exact h)
theorem X_fo504 : X_Sb.1 504 = .inr (5, [.int 0, .ref 505, .ref 506, .ref 507, .ref 508, .ref 509, .ref 510]) := X_ob_eq (by have h := congrArg (fun l => l.getD 6 none) X_Fob; exact h)
theorem X_fo511 : X_Sb.1 511 = .inr (1, [.ref 4, .ref 501, .int 0, .ref 512, .ref 513, .ref 514, .ref 515, .ref 516]) := X_ob_eq (by have h := congrArg (fun l => l.getD 7 none) X_Fob; exact h)
theorem X_fo517 : X_Sb.1 517 = .inr (2, [.ref 511, .ref 501, .ref 504, .int 0, .ref 518, .ref 519, .ref 520, .ref 521, .ref 522, .ref 523, .ref 524, .ref 525, .ref 526]) := X_ob_eq (by have h := congrArg (fun l => l.getD 8 none) X_Fob; exact h)
theorem X_fo527 : X_Sb.1 527 = .inr (9, [.ref 501, .ref 504, .int 0, .int (-1), .ref 528, .ref 529, .int 0]) := X_ob_eq (by have h := congrArg (fun l => l.getD 9 none) X_Fob; exact h)
theorem X_fo530 : X_Sb.1 530 = .inr (11, [.ref 531, .int 0, .ref 532, .int 0, .int 0, .int 0, .int (-1), .int 0, .int 0, .int 0, .int 0, .int 0, .long 0, .ref 533, .ref 534, .ref 535, .ref 536, .ref 537, .ref 538, .ref 539, .ref 540, .ref 541, .ref 542, .ref 543, .ref 544, .ref 545, .ref 546, .ref 547, .int 0, .int 1, .int 0, .int 0, .int 1, .int 0, .ref 548, .ref 549, .ref 550, .ref 551, .int 0, .ref 552, .ref 553, .ref 554, .ref 555, .ref 556, .ref 557, .ref 558, .ref 559, .ref 560, .ref 561, .int 0, .ref 562, .ref 563, .ref 564, .ref 565, .ref 566, .ref 567, .ref 568, .ref 569, .int 0, .ref 570, .ref 571, .ref 572, .ref 573, .ref 574, .ref 575, .ref 576, .ref 577, .ref 578, .int 0, .int 0, .int 0, .ref 579]) := X_ob_eq (by have h := congrArg (fun l => l.getD 10 none) X_Fob; exact h)
theorem X_fa3 : ∃ f, X_Sb.1 3 = .inl (.byte, 2000, .inl f) := X_sh_i (by have h := congrArg (fun l => l.getD 0 none) X_Far.1; exact h)
theorem X_fa531 : ∃ f, X_Sb.1 531 = .inl (.byte, 2020, .inl f) := X_sh_i (by have h := congrArg (fun l => l.getD 1 none) X_Far.1; exact h)
theorem X_fa8 : ∃ f, X_Sb.1 8 = .inl (.int, 11, .inl f) ∧ f 0 = 1 := by
  obtain ⟨f, hf⟩ := X_sh_i (t := .int) (n := 11) (c := X_Sb.1 8) (by have h := congrArg (fun l => l.getD 2 none) X_Far.1; exact h)
  refine ⟨f, hf, ?_⟩
  have h := X_Far.2
  rw [hf] at h
  exact Option.some.inj h
end
