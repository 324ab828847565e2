-- ===== PART A: goes FIRST, ahead of the names: the tables' words, and 'selects' of the private methods out of them =====
/-- a private method of a class that the tables say can be made, by its rows of tables_1 -/
def lw_okq (q : MethodName × Nat) : Prop := (q.1.cls ≠ "java/lang/invoke/MethodHandle" ∧ q.1.cls ≠ "java/lang/invoke/VarHandle") ∧ Cond.instantiable q.1.cls q.2 ∈ tables_1 ∧ Cond.privateMethod q.1 ∈ tables_1 ∧ Cond.instanceMethod q.1 ∈ tables_1
theorem lw_p0 : lw_okq (⟨"MixfixBench$Lexer", "takeToken", "(I)I"⟩, 7) := ⟨⟨by decide +kernel, by decide +kernel⟩, List.mem_of_getElem? (i := 189) (by decide +kernel), List.mem_of_getElem? (i := 459) (by decide +kernel), List.mem_of_getElem? (i := 460) (by decide +kernel)⟩
theorem lw_p1 : lw_okq (⟨"MixfixBench$Lexer", "takeName", "()I"⟩, 7) := ⟨⟨by decide +kernel, by decide +kernel⟩, List.mem_of_getElem? (i := 189) (by decide +kernel), List.mem_of_getElem? (i := 466) (by decide +kernel), List.mem_of_getElem? (i := 467) (by decide +kernel)⟩
theorem lw_p2 : lw_okq (⟨"MixfixBench$Lexer", "takeNumber", "()I"⟩, 7) := ⟨⟨by decide +kernel, by decide +kernel⟩, List.mem_of_getElem? (i := 189) (by decide +kernel), List.mem_of_getElem? (i := 486) (by decide +kernel), List.mem_of_getElem? (i := 487) (by decide +kernel)⟩
theorem lw_p3 : lw_okq (⟨"MixfixBench$Lexer", "takePart", "()I"⟩, 7) := ⟨⟨by decide +kernel, by decide +kernel⟩, List.mem_of_getElem? (i := 189) (by decide +kernel), List.mem_of_getElem? (i := 492) (by decide +kernel), List.mem_of_getElem? (i := 493) (by decide +kernel)⟩
theorem lw_p4 : lw_okq (⟨"MixfixBench$Lexer", "takeSign", "(I)I"⟩, 7) := ⟨⟨by decide +kernel, by decide +kernel⟩, List.mem_of_getElem? (i := 189) (by decide +kernel), List.mem_of_getElem? (i := 499) (by decide +kernel), List.mem_of_getElem? (i := 500) (by decide +kernel)⟩
theorem lw_p5 : lw_okq (⟨"MixfixBench$Parser", "parseRank", "()V"⟩, 4) := ⟨⟨by decide +kernel, by decide +kernel⟩, List.mem_of_getElem? (i := 183) (by decide +kernel), List.mem_of_getElem? (i := 520) (by decide +kernel), List.mem_of_getElem? (i := 521) (by decide +kernel)⟩
theorem lw_p6 : lw_okq (⟨"MixfixBench$Parser", "refuse", "()V"⟩, 4) := ⟨⟨by decide +kernel, by decide +kernel⟩, List.mem_of_getElem? (i := 183) (by decide +kernel), List.mem_of_getElem? (i := 524) (by decide +kernel), List.mem_of_getElem? (i := 525) (by decide +kernel)⟩
theorem lw_p7 : lw_okq (⟨"MixfixBench$Parser", "blame", "(II)V"⟩, 4) := ⟨⟨by decide +kernel, by decide +kernel⟩, List.mem_of_getElem? (i := 183) (by decide +kernel), List.mem_of_getElem? (i := 532) (by decide +kernel), List.mem_of_getElem? (i := 533) (by decide +kernel)⟩
theorem lw_p8 : lw_okq (⟨"MixfixBench$Parser", "pass", "(I)Z"⟩, 4) := ⟨⟨by decide +kernel, by decide +kernel⟩, List.mem_of_getElem? (i := 183) (by decide +kernel), List.mem_of_getElem? (i := 552) (by decide +kernel), List.mem_of_getElem? (i := 553) (by decide +kernel)⟩
theorem lw_p9 : lw_okq (⟨"MixfixBench$Parser", "parseTighter", "()V"⟩, 4) := ⟨⟨by decide +kernel, by decide +kernel⟩, List.mem_of_getElem? (i := 183) (by decide +kernel), List.mem_of_getElem? (i := 557) (by decide +kernel), List.mem_of_getElem? (i := 558) (by decide +kernel)⟩
theorem lw_p10 : lw_okq (⟨"MixfixBench$Parser", "passRank", "()I"⟩, 4) := ⟨⟨by decide +kernel, by decide +kernel⟩, List.mem_of_getElem? (i := 183) (by decide +kernel), List.mem_of_getElem? (i := 561) (by decide +kernel), List.mem_of_getElem? (i := 562) (by decide +kernel)⟩
theorem lw_p11 : lw_okq (⟨"MixfixBench$Parser", "passName", "(I)I"⟩, 4) := ⟨⟨by decide +kernel, by decide +kernel⟩, List.mem_of_getElem? (i := 183) (by decide +kernel), List.mem_of_getElem? (i := 565) (by decide +kernel), List.mem_of_getElem? (i := 566) (by decide +kernel)⟩
theorem lw_p12 : lw_okq (⟨"MixfixBench$Parser", "parseKind", "()V"⟩, 4) := ⟨⟨by decide +kernel, by decide +kernel⟩, List.mem_of_getElem? (i := 183) (by decide +kernel), List.mem_of_getElem? (i := 582) (by decide +kernel), List.mem_of_getElem? (i := 583) (by decide +kernel)⟩
theorem lw_p13 : lw_okq (⟨"MixfixBench$Parser", "passKind", "()I"⟩, 4) := ⟨⟨by decide +kernel, by decide +kernel⟩, List.mem_of_getElem? (i := 183) (by decide +kernel), List.mem_of_getElem? (i := 591) (by decide +kernel), List.mem_of_getElem? (i := 592) (by decide +kernel)⟩
theorem lw_p14 : lw_okq (⟨"MixfixBench$Parser", "parseWord", "()V"⟩, 4) := ⟨⟨by decide +kernel, by decide +kernel⟩, List.mem_of_getElem? (i := 183) (by decide +kernel), List.mem_of_getElem? (i := 604) (by decide +kernel), List.mem_of_getElem? (i := 605) (by decide +kernel)⟩
theorem lw_p15 : lw_okq (⟨"MixfixBench$Parser", "parseLean", "(LMixfixBench$Word;)V"⟩, 4) := ⟨⟨by decide +kernel, by decide +kernel⟩, List.mem_of_getElem? (i := 183) (by decide +kernel), List.mem_of_getElem? (i := 612) (by decide +kernel), List.mem_of_getElem? (i := 613) (by decide +kernel)⟩
def lw_privs_1 : List (MethodName × Nat) := [(⟨"MixfixBench$Lexer", "takeToken", "(I)I"⟩, 7), (⟨"MixfixBench$Lexer", "takeName", "()I"⟩, 7), (⟨"MixfixBench$Lexer", "takeNumber", "()I"⟩, 7), (⟨"MixfixBench$Lexer", "takePart", "()I"⟩, 7), (⟨"MixfixBench$Lexer", "takeSign", "(I)I"⟩, 7), (⟨"MixfixBench$Parser", "parseRank", "()V"⟩, 4), (⟨"MixfixBench$Parser", "refuse", "()V"⟩, 4), (⟨"MixfixBench$Parser", "blame", "(II)V"⟩, 4), (⟨"MixfixBench$Parser", "pass", "(I)Z"⟩, 4), (⟨"MixfixBench$Parser", "parseTighter", "()V"⟩, 4), (⟨"MixfixBench$Parser", "passRank", "()I"⟩, 4), (⟨"MixfixBench$Parser", "passName", "(I)I"⟩, 4), (⟨"MixfixBench$Parser", "parseKind", "()V"⟩, 4), (⟨"MixfixBench$Parser", "passKind", "()I"⟩, 4), (⟨"MixfixBench$Parser", "parseWord", "()V"⟩, 4), (⟨"MixfixBench$Parser", "parseLean", "(LMixfixBench$Word;)V"⟩, 4)]
theorem lw_r1 : ∀ q ∈ lw_privs_1, lw_okq q := List.forall_mem_cons.mpr ⟨lw_p0, List.forall_mem_cons.mpr ⟨lw_p1, List.forall_mem_cons.mpr ⟨lw_p2, List.forall_mem_cons.mpr ⟨lw_p3, List.forall_mem_cons.mpr ⟨lw_p4, List.forall_mem_cons.mpr ⟨lw_p5, List.forall_mem_cons.mpr ⟨lw_p6, List.forall_mem_cons.mpr ⟨lw_p7, List.forall_mem_cons.mpr ⟨lw_p8, List.forall_mem_cons.mpr ⟨lw_p9, List.forall_mem_cons.mpr ⟨lw_p10, List.forall_mem_cons.mpr ⟨lw_p11, List.forall_mem_cons.mpr ⟨lw_p12, List.forall_mem_cons.mpr ⟨lw_p13, List.forall_mem_cons.mpr ⟨lw_p14, List.forall_mem_cons.mpr ⟨lw_p15, fun _ h => absurd h List.not_mem_nil⟩⟩⟩⟩⟩⟩⟩⟩⟩⟩⟩⟩⟩⟩⟩⟩
theorem lw_p16 : lw_okq (⟨"MixfixBench$Parser", "parseElements", "(LMixfixBench$Word;)Z"⟩, 4) := ⟨⟨by decide +kernel, by decide +kernel⟩, List.mem_of_getElem? (i := 183) (by decide +kernel), List.mem_of_getElem? (i := 618) (by decide +kernel), List.mem_of_getElem? (i := 619) (by decide +kernel)⟩
theorem lw_p17 : lw_okq (⟨"MixfixBench$Parser", "parseSteps", "(LMixfixBench$Word;)Z"⟩, 4) := ⟨⟨by decide +kernel, by decide +kernel⟩, List.mem_of_getElem? (i := 183) (by decide +kernel), List.mem_of_getElem? (i := 646) (by decide +kernel), List.mem_of_getElem? (i := 647) (by decide +kernel)⟩
theorem lw_p18 : lw_okq (⟨"MixfixBench$Parser", "parseStep", "(LMixfixBench$Word;I)I"⟩, 4) := ⟨⟨by decide +kernel, by decide +kernel⟩, List.mem_of_getElem? (i := 183) (by decide +kernel), List.mem_of_getElem? (i := 650) (by decide +kernel), List.mem_of_getElem? (i := 651) (by decide +kernel)⟩
theorem lw_p19 : lw_okq (⟨"MixfixBench$Parser", "isNumber", "()Z"⟩, 4) := ⟨⟨by decide +kernel, by decide +kernel⟩, List.mem_of_getElem? (i := 183) (by decide +kernel), List.mem_of_getElem? (i := 654) (by decide +kernel), List.mem_of_getElem? (i := 655) (by decide +kernel)⟩
theorem lw_p20 : lw_okq (⟨"MixfixBench$Book", "wordsFitting", "(LMixfixBench$Word;I)I"⟩, 8) := ⟨⟨by decide +kernel, by decide +kernel⟩, List.mem_of_getElem? (i := 40) (by decide +kernel), List.mem_of_getElem? (i := 682) (by decide +kernel), List.mem_of_getElem? (i := 683) (by decide +kernel)⟩
theorem lw_p21 : lw_okq (⟨"MixfixBench", "dropReading", "()V"⟩, 9) := ⟨⟨by decide +kernel, by decide +kernel⟩, List.mem_of_getElem? (i := 15) (by decide +kernel), List.mem_of_getElem? (i := 687) (by decide +kernel), List.mem_of_getElem? (i := 688) (by decide +kernel)⟩
theorem lw_p22 : lw_okq (⟨"MixfixBench$Chart", "fillStretch", "(II)V"⟩, 8) := ⟨⟨by decide +kernel, by decide +kernel⟩, List.mem_of_getElem? (i := 290) (by decide +kernel), List.mem_of_getElem? (i := 756) (by decide +kernel), List.mem_of_getElem? (i := 757) (by decide +kernel)⟩
theorem lw_p23 : lw_okq (⟨"MixfixBench$Chart", "ways", "(IIII)J"⟩, 8) := ⟨⟨by decide +kernel, by decide +kernel⟩, List.mem_of_getElem? (i := 290) (by decide +kernel), List.mem_of_getElem? (i := 763) (by decide +kernel), List.mem_of_getElem? (i := 764) (by decide +kernel)⟩
theorem lw_p24 : lw_okq (⟨"MixfixBench$Chart", "fillKinds", "(II)V"⟩, 8) := ⟨⟨by decide +kernel, by decide +kernel⟩, List.mem_of_getElem? (i := 290) (by decide +kernel), List.mem_of_getElem? (i := 787) (by decide +kernel), List.mem_of_getElem? (i := 788) (by decide +kernel)⟩
theorem lw_p25 : lw_okq (⟨"MixfixBench$Chart", "sumOfKinds", "(II)J"⟩, 8) := ⟨⟨by decide +kernel, by decide +kernel⟩, List.mem_of_getElem? (i := 290) (by decide +kernel), List.mem_of_getElem? (i := 810) (by decide +kernel), List.mem_of_getElem? (i := 811) (by decide +kernel)⟩
theorem lw_p26 : lw_okq (⟨"MixfixBench$Chart", "sumOfWords", "(II)J"⟩, 8) := ⟨⟨by decide +kernel, by decide +kernel⟩, List.mem_of_getElem? (i := 290) (by decide +kernel), List.mem_of_getElem? (i := 816) (by decide +kernel), List.mem_of_getElem? (i := 817) (by decide +kernel)⟩
theorem lw_p27 : lw_okq (⟨"MixfixBench$Chart", "fillHoles", "(II)V"⟩, 8) := ⟨⟨by decide +kernel, by decide +kernel⟩, List.mem_of_getElem? (i := 290) (by decide +kernel), List.mem_of_getElem? (i := 820) (by decide +kernel), List.mem_of_getElem? (i := 821) (by decide +kernel)⟩
theorem lw_p28 : lw_okq (⟨"MixfixBench$Chart", "fillTails", "(III)V"⟩, 8) := ⟨⟨by decide +kernel, by decide +kernel⟩, List.mem_of_getElem? (i := 290) (by decide +kernel), List.mem_of_getElem? (i := 824) (by decide +kernel), List.mem_of_getElem? (i := 825) (by decide +kernel)⟩
theorem lw_p29 : lw_okq (⟨"MixfixBench$Finder", "await", "(IIII)V"⟩, 13) := ⟨⟨by decide +kernel, by decide +kernel⟩, List.mem_of_getElem? (i := 323) (by decide +kernel), List.mem_of_getElem? (i := 845) (by decide +kernel), List.mem_of_getElem? (i := 846) (by decide +kernel)⟩
theorem lw_p30 : lw_okq (⟨"MixfixBench$Finder", "demand", "(IIJ)V"⟩, 13) := ⟨⟨by decide +kernel, by decide +kernel⟩, List.mem_of_getElem? (i := 323) (by decide +kernel), List.mem_of_getElem? (i := 849) (by decide +kernel), List.mem_of_getElem? (i := 850) (by decide +kernel)⟩
theorem lw_p31 : lw_okq (⟨"MixfixBench$Finder", "makeNode", "()V"⟩, 13) := ⟨⟨by decide +kernel, by decide +kernel⟩, List.mem_of_getElem? (i := 323) (by decide +kernel), List.mem_of_getElem? (i := 853) (by decide +kernel), List.mem_of_getElem? (i := 854) (by decide +kernel)⟩
def lw_privs_2 : List (MethodName × Nat) := [(⟨"MixfixBench$Parser", "parseElements", "(LMixfixBench$Word;)Z"⟩, 4), (⟨"MixfixBench$Parser", "parseSteps", "(LMixfixBench$Word;)Z"⟩, 4), (⟨"MixfixBench$Parser", "parseStep", "(LMixfixBench$Word;I)I"⟩, 4), (⟨"MixfixBench$Parser", "isNumber", "()Z"⟩, 4), (⟨"MixfixBench$Book", "wordsFitting", "(LMixfixBench$Word;I)I"⟩, 8), (⟨"MixfixBench", "dropReading", "()V"⟩, 9), (⟨"MixfixBench$Chart", "fillStretch", "(II)V"⟩, 8), (⟨"MixfixBench$Chart", "ways", "(IIII)J"⟩, 8), (⟨"MixfixBench$Chart", "fillKinds", "(II)V"⟩, 8), (⟨"MixfixBench$Chart", "sumOfKinds", "(II)J"⟩, 8), (⟨"MixfixBench$Chart", "sumOfWords", "(II)J"⟩, 8), (⟨"MixfixBench$Chart", "fillHoles", "(II)V"⟩, 8), (⟨"MixfixBench$Chart", "fillTails", "(III)V"⟩, 8), (⟨"MixfixBench$Finder", "await", "(IIII)V"⟩, 13), (⟨"MixfixBench$Finder", "demand", "(IIJ)V"⟩, 13), (⟨"MixfixBench$Finder", "makeNode", "()V"⟩, 13)]
theorem lw_r2 : ∀ q ∈ lw_privs_2, lw_okq q := List.forall_mem_cons.mpr ⟨lw_p16, List.forall_mem_cons.mpr ⟨lw_p17, List.forall_mem_cons.mpr ⟨lw_p18, List.forall_mem_cons.mpr ⟨lw_p19, List.forall_mem_cons.mpr ⟨lw_p20, List.forall_mem_cons.mpr ⟨lw_p21, List.forall_mem_cons.mpr ⟨lw_p22, List.forall_mem_cons.mpr ⟨lw_p23, List.forall_mem_cons.mpr ⟨lw_p24, List.forall_mem_cons.mpr ⟨lw_p25, List.forall_mem_cons.mpr ⟨lw_p26, List.forall_mem_cons.mpr ⟨lw_p27, List.forall_mem_cons.mpr ⟨lw_p28, List.forall_mem_cons.mpr ⟨lw_p29, List.forall_mem_cons.mpr ⟨lw_p30, List.forall_mem_cons.mpr ⟨lw_p31, fun _ h => absurd h List.not_mem_nil⟩⟩⟩⟩⟩⟩⟩⟩⟩⟩⟩⟩⟩⟩⟩⟩
theorem lw_p32 : lw_okq (⟨"MixfixBench$Finder", "chooseWord", "(I)I"⟩, 13) := ⟨⟨by decide +kernel, by decide +kernel⟩, List.mem_of_getElem? (i := 323) (by decide +kernel), List.mem_of_getElem? (i := 857) (by decide +kernel), List.mem_of_getElem? (i := 858) (by decide +kernel)⟩
theorem lw_p33 : lw_okq (⟨"MixfixBench$Finder", "splitWord", "(IIIJ)J"⟩, 13) := ⟨⟨by decide +kernel, by decide +kernel⟩, List.mem_of_getElem? (i := 323) (by decide +kernel), List.mem_of_getElem? (i := 879) (by decide +kernel), List.mem_of_getElem? (i := 880) (by decide +kernel)⟩
theorem lw_p34 : lw_okq (⟨"MixfixBench$Finder", "fillWord", "(IIJ)V"⟩, 13) := ⟨⟨by decide +kernel, by decide +kernel⟩, List.mem_of_getElem? (i := 323) (by decide +kernel), List.mem_of_getElem? (i := 887) (by decide +kernel), List.mem_of_getElem? (i := 888) (by decide +kernel)⟩
theorem lw_p35 : lw_okq (⟨"MixfixBench$Worker", "workNode", "(LMixfixBench$Book;I)I"⟩, 7) := ⟨⟨by decide +kernel, by decide +kernel⟩, List.mem_of_getElem? (i := 369) (by decide +kernel), List.mem_of_getElem? (i := 909) (by decide +kernel), List.mem_of_getElem? (i := 910) (by decide +kernel)⟩
theorem lw_p36 : lw_okq (⟨"MixfixBench$Worker", "runSteps", "(LMixfixBench$Word;I)Z"⟩, 7) := ⟨⟨by decide +kernel, by decide +kernel⟩, List.mem_of_getElem? (i := 369) (by decide +kernel), List.mem_of_getElem? (i := 918) (by decide +kernel), List.mem_of_getElem? (i := 919) (by decide +kernel)⟩
theorem lw_p37 : lw_okq (⟨"MixfixBench$Worker", "push", "(I)V"⟩, 7) := ⟨⟨by decide +kernel, by decide +kernel⟩, List.mem_of_getElem? (i := 369) (by decide +kernel), List.mem_of_getElem? (i := 922) (by decide +kernel), List.mem_of_getElem? (i := 923) (by decide +kernel)⟩
theorem lw_p38 : lw_okq (⟨"MixfixBench$Worker", "operate", "(I)Z"⟩, 7) := ⟨⟨by decide +kernel, by decide +kernel⟩, List.mem_of_getElem? (i := 369) (by decide +kernel), List.mem_of_getElem? (i := 926) (by decide +kernel), List.mem_of_getElem? (i := 927) (by decide +kernel)⟩
theorem lw_p39 : lw_okq (⟨"MixfixBenchModel", "next", "()V"⟩, 72) := ⟨⟨by decide +kernel, by decide +kernel⟩, List.mem_of_getElem? (i := 956) (by decide +kernel), List.mem_of_getElem? (i := 1186) (by decide +kernel), List.mem_of_getElem? (i := 1187) (by decide +kernel)⟩
theorem lw_p40 : lw_okq (⟨"MixfixBenchModel", "sign", "(I)I"⟩, 72) := ⟨⟨by decide +kernel, by decide +kernel⟩, List.mem_of_getElem? (i := 956) (by decide +kernel), List.mem_of_getElem? (i := 1190) (by decide +kernel), List.mem_of_getElem? (i := 1191) (by decide +kernel)⟩
theorem lw_p41 : lw_okq (⟨"MixfixBenchModel", "pack", "(II)V"⟩, 72) := ⟨⟨by decide +kernel, by decide +kernel⟩, List.mem_of_getElem? (i := 956) (by decide +kernel), List.mem_of_getElem? (i := 1200) (by decide +kernel), List.mem_of_getElem? (i := 1201) (by decide +kernel)⟩
theorem lw_p42 : lw_okq (⟨"MixfixBenchModel", "nextPart", "()V"⟩, 72) := ⟨⟨by decide +kernel, by decide +kernel⟩, List.mem_of_getElem? (i := 956) (by decide +kernel), List.mem_of_getElem? (i := 1211) (by decide +kernel), List.mem_of_getElem? (i := 1212) (by decide +kernel)⟩
theorem lw_p43 : lw_okq (⟨"MixfixBenchModel", "isGood", "()Z"⟩, 72) := ⟨⟨by decide +kernel, by decide +kernel⟩, List.mem_of_getElem? (i := 956) (by decide +kernel), List.mem_of_getElem? (i := 1218) (by decide +kernel), List.mem_of_getElem? (i := 1219) (by decide +kernel)⟩
theorem lw_p44 : lw_okq (⟨"MixfixBenchModel", "wrong", "()V"⟩, 72) := ⟨⟨by decide +kernel, by decide +kernel⟩, List.mem_of_getElem? (i := 956) (by decide +kernel), List.mem_of_getElem? (i := 1222) (by decide +kernel), List.mem_of_getElem? (i := 1223) (by decide +kernel)⟩
theorem lw_p45 : lw_okq (⟨"MixfixBenchModel", "fails", "(II)V"⟩, 72) := ⟨⟨by decide +kernel, by decide +kernel⟩, List.mem_of_getElem? (i := 956) (by decide +kernel), List.mem_of_getElem? (i := 1226) (by decide +kernel), List.mem_of_getElem? (i := 1227) (by decide +kernel)⟩
theorem lw_p46 : lw_okq (⟨"MixfixBenchModel", "readRank", "()V"⟩, 72) := ⟨⟨by decide +kernel, by decide +kernel⟩, List.mem_of_getElem? (i := 956) (by decide +kernel), List.mem_of_getElem? (i := 1230) (by decide +kernel), List.mem_of_getElem? (i := 1231) (by decide +kernel)⟩
theorem lw_p47 : lw_okq (⟨"MixfixBenchModel", "rankOf", "(J)I"⟩, 72) := ⟨⟨by decide +kernel, by decide +kernel⟩, List.mem_of_getElem? (i := 956) (by decide +kernel), List.mem_of_getElem? (i := 1234) (by decide +kernel), List.mem_of_getElem? (i := 1235) (by decide +kernel)⟩
def lw_privs_3 : List (MethodName × Nat) := [(⟨"MixfixBench$Finder", "chooseWord", "(I)I"⟩, 13), (⟨"MixfixBench$Finder", "splitWord", "(IIIJ)J"⟩, 13), (⟨"MixfixBench$Finder", "fillWord", "(IIJ)V"⟩, 13), (⟨"MixfixBench$Worker", "workNode", "(LMixfixBench$Book;I)I"⟩, 7), (⟨"MixfixBench$Worker", "runSteps", "(LMixfixBench$Word;I)Z"⟩, 7), (⟨"MixfixBench$Worker", "push", "(I)V"⟩, 7), (⟨"MixfixBench$Worker", "operate", "(I)Z"⟩, 7), (⟨"MixfixBenchModel", "next", "()V"⟩, 72), (⟨"MixfixBenchModel", "sign", "(I)I"⟩, 72), (⟨"MixfixBenchModel", "pack", "(II)V"⟩, 72), (⟨"MixfixBenchModel", "nextPart", "()V"⟩, 72), (⟨"MixfixBenchModel", "isGood", "()Z"⟩, 72), (⟨"MixfixBenchModel", "wrong", "()V"⟩, 72), (⟨"MixfixBenchModel", "fails", "(II)V"⟩, 72), (⟨"MixfixBenchModel", "readRank", "()V"⟩, 72), (⟨"MixfixBenchModel", "rankOf", "(J)I"⟩, 72)]
theorem lw_r3 : ∀ q ∈ lw_privs_3, lw_okq q := List.forall_mem_cons.mpr ⟨lw_p32, List.forall_mem_cons.mpr ⟨lw_p33, List.forall_mem_cons.mpr ⟨lw_p34, List.forall_mem_cons.mpr ⟨lw_p35, List.forall_mem_cons.mpr ⟨lw_p36, List.forall_mem_cons.mpr ⟨lw_p37, List.forall_mem_cons.mpr ⟨lw_p38, List.forall_mem_cons.mpr ⟨lw_p39, List.forall_mem_cons.mpr ⟨lw_p40, List.forall_mem_cons.mpr ⟨lw_p41, List.forall_mem_cons.mpr ⟨lw_p42, List.forall_mem_cons.mpr ⟨lw_p43, List.forall_mem_cons.mpr ⟨lw_p44, List.forall_mem_cons.mpr ⟨lw_p45, List.forall_mem_cons.mpr ⟨lw_p46, List.forall_mem_cons.mpr ⟨lw_p47, fun _ h => absurd h List.not_mem_nil⟩⟩⟩⟩⟩⟩⟩⟩⟩⟩⟩⟩⟩⟩⟩⟩
theorem lw_p48 : lw_okq (⟨"MixfixBenchModel", "must", "(I)V"⟩, 72) := ⟨⟨by decide +kernel, by decide +kernel⟩, List.mem_of_getElem? (i := 956) (by decide +kernel), List.mem_of_getElem? (i := 1238) (by decide +kernel), List.mem_of_getElem? (i := 1239) (by decide +kernel)⟩
theorem lw_p49 : lw_okq (⟨"MixfixBenchModel", "is", "(I)Z"⟩, 72) := ⟨⟨by decide +kernel, by decide +kernel⟩, List.mem_of_getElem? (i := 956) (by decide +kernel), List.mem_of_getElem? (i := 1242) (by decide +kernel), List.mem_of_getElem? (i := 1243) (by decide +kernel)⟩
theorem lw_p50 : lw_okq (⟨"MixfixBenchModel", "readTighter", "()V"⟩, 72) := ⟨⟨by decide +kernel, by decide +kernel⟩, List.mem_of_getElem? (i := 956) (by decide +kernel), List.mem_of_getElem? (i := 1246) (by decide +kernel), List.mem_of_getElem? (i := 1247) (by decide +kernel)⟩
theorem lw_p51 : lw_okq (⟨"MixfixBenchModel", "aRank", "()I"⟩, 72) := ⟨⟨by decide +kernel, by decide +kernel⟩, List.mem_of_getElem? (i := 956) (by decide +kernel), List.mem_of_getElem? (i := 1250) (by decide +kernel), List.mem_of_getElem? (i := 1251) (by decide +kernel)⟩
theorem lw_p52 : lw_okq (⟨"MixfixBenchModel", "tight", "(II)Z"⟩, 72) := ⟨⟨by decide +kernel, by decide +kernel⟩, List.mem_of_getElem? (i := 956) (by decide +kernel), List.mem_of_getElem? (i := 1254) (by decide +kernel), List.mem_of_getElem? (i := 1255) (by decide +kernel)⟩
theorem lw_p53 : lw_okq (⟨"MixfixBenchModel", "readKind", "()V"⟩, 72) := ⟨⟨by decide +kernel, by decide +kernel⟩, List.mem_of_getElem? (i := 956) (by decide +kernel), List.mem_of_getElem? (i := 1258) (by decide +kernel), List.mem_of_getElem? (i := 1259) (by decide +kernel)⟩
theorem lw_p54 : lw_okq (⟨"MixfixBenchModel", "kindOf", "(J)I"⟩, 72) := ⟨⟨by decide +kernel, by decide +kernel⟩, List.mem_of_getElem? (i := 956) (by decide +kernel), List.mem_of_getElem? (i := 1262) (by decide +kernel), List.mem_of_getElem? (i := 1263) (by decide +kernel)⟩
theorem lw_p55 : lw_okq (⟨"MixfixBenchModel", "isWord", "(J)Z"⟩, 72) := ⟨⟨by decide +kernel, by decide +kernel⟩, List.mem_of_getElem? (i := 956) (by decide +kernel), List.mem_of_getElem? (i := 1266) (by decide +kernel), List.mem_of_getElem? (i := 1267) (by decide +kernel)⟩
theorem lw_p56 : lw_okq (⟨"MixfixBenchModel", "aKind", "()I"⟩, 72) := ⟨⟨by decide +kernel, by decide +kernel⟩, List.mem_of_getElem? (i := 956) (by decide +kernel), List.mem_of_getElem? (i := 1270) (by decide +kernel), List.mem_of_getElem? (i := 1271) (by decide +kernel)⟩
theorem lw_p57 : lw_okq (⟨"MixfixBenchModel", "readWord", "()V"⟩, 72) := ⟨⟨by decide +kernel, by decide +kernel⟩, List.mem_of_getElem? (i := 956) (by decide +kernel), List.mem_of_getElem? (i := 1274) (by decide +kernel), List.mem_of_getElem? (i := 1275) (by decide +kernel)⟩
theorem lw_p58 : lw_okq (⟨"MixfixBenchModel", "readElement", "(I)V"⟩, 72) := ⟨⟨by decide +kernel, by decide +kernel⟩, List.mem_of_getElem? (i := 956) (by decide +kernel), List.mem_of_getElem? (i := 1278) (by decide +kernel), List.mem_of_getElem? (i := 1279) (by decide +kernel)⟩
theorem lw_p59 : lw_okq (⟨"MixfixBenchModel", "ends", "(I)I"⟩, 72) := ⟨⟨by decide +kernel, by decide +kernel⟩, List.mem_of_getElem? (i := 956) (by decide +kernel), List.mem_of_getElem? (i := 1282) (by decide +kernel), List.mem_of_getElem? (i := 1283) (by decide +kernel)⟩
theorem lw_p60 : lw_okq (⟨"MixfixBenchModel", "readSteps", "(I)V"⟩, 72) := ⟨⟨by decide +kernel, by decide +kernel⟩, List.mem_of_getElem? (i := 956) (by decide +kernel), List.mem_of_getElem? (i := 1286) (by decide +kernel), List.mem_of_getElem? (i := 1287) (by decide +kernel)⟩
theorem lw_p61 : lw_okq (⟨"MixfixBenchModel", "isWordNumber", "(I)Z"⟩, 72) := ⟨⟨by decide +kernel, by decide +kernel⟩, List.mem_of_getElem? (i := 956) (by decide +kernel), List.mem_of_getElem? (i := 1302) (by decide +kernel), List.mem_of_getElem? (i := 1303) (by decide +kernel)⟩
theorem lw_p62 : lw_okq (⟨"MixfixBenchModel", "isUnder", "(II)Z"⟩, 72) := ⟨⟨by decide +kernel, by decide +kernel⟩, List.mem_of_getElem? (i := 956) (by decide +kernel), List.mem_of_getElem? (i := 1314) (by decide +kernel), List.mem_of_getElem? (i := 1315) (by decide +kernel)⟩
theorem lw_p63 : lw_okq (⟨"MixfixBenchModel", "countAll", "()V"⟩, 72) := ⟨⟨by decide +kernel, by decide +kernel⟩, List.mem_of_getElem? (i := 956) (by decide +kernel), List.mem_of_getElem? (i := 1322) (by decide +kernel), List.mem_of_getElem? (i := 1323) (by decide +kernel)⟩
def lw_privs_4 : List (MethodName × Nat) := [(⟨"MixfixBenchModel", "must", "(I)V"⟩, 72), (⟨"MixfixBenchModel", "is", "(I)Z"⟩, 72), (⟨"MixfixBenchModel", "readTighter", "()V"⟩, 72), (⟨"MixfixBenchModel", "aRank", "()I"⟩, 72), (⟨"MixfixBenchModel", "tight", "(II)Z"⟩, 72), (⟨"MixfixBenchModel", "readKind", "()V"⟩, 72), (⟨"MixfixBenchModel", "kindOf", "(J)I"⟩, 72), (⟨"MixfixBenchModel", "isWord", "(J)Z"⟩, 72), (⟨"MixfixBenchModel", "aKind", "()I"⟩, 72), (⟨"MixfixBenchModel", "readWord", "()V"⟩, 72), (⟨"MixfixBenchModel", "readElement", "(I)V"⟩, 72), (⟨"MixfixBenchModel", "ends", "(I)I"⟩, 72), (⟨"MixfixBenchModel", "readSteps", "(I)V"⟩, 72), (⟨"MixfixBenchModel", "isWordNumber", "(I)Z"⟩, 72), (⟨"MixfixBenchModel", "isUnder", "(II)Z"⟩, 72), (⟨"MixfixBenchModel", "countAll", "()V"⟩, 72)]
theorem lw_r4 : ∀ q ∈ lw_privs_4, lw_okq q := List.forall_mem_cons.mpr ⟨lw_p48, List.forall_mem_cons.mpr ⟨lw_p49, List.forall_mem_cons.mpr ⟨lw_p50, List.forall_mem_cons.mpr ⟨lw_p51, List.forall_mem_cons.mpr ⟨lw_p52, List.forall_mem_cons.mpr ⟨lw_p53, List.forall_mem_cons.mpr ⟨lw_p54, List.forall_mem_cons.mpr ⟨lw_p55, List.forall_mem_cons.mpr ⟨lw_p56, List.forall_mem_cons.mpr ⟨lw_p57, List.forall_mem_cons.mpr ⟨lw_p58, List.forall_mem_cons.mpr ⟨lw_p59, List.forall_mem_cons.mpr ⟨lw_p60, List.forall_mem_cons.mpr ⟨lw_p61, List.forall_mem_cons.mpr ⟨lw_p62, List.forall_mem_cons.mpr ⟨lw_p63, fun _ h => absurd h List.not_mem_nil⟩⟩⟩⟩⟩⟩⟩⟩⟩⟩⟩⟩⟩⟩⟩⟩
theorem lw_p64 : lw_okq (⟨"MixfixBenchModel", "wordWays", "(III)J"⟩, 72) := ⟨⟨by decide +kernel, by decide +kernel⟩, List.mem_of_getElem? (i := 956) (by decide +kernel), List.mem_of_getElem? (i := 1329) (by decide +kernel), List.mem_of_getElem? (i := 1330) (by decide +kernel)⟩
theorem lw_p65 : lw_okq (⟨"MixfixBenchModel", "kindWays", "(III)J"⟩, 72) := ⟨⟨by decide +kernel, by decide +kernel⟩, List.mem_of_getElem? (i := 956) (by decide +kernel), List.mem_of_getElem? (i := 1343) (by decide +kernel), List.mem_of_getElem? (i := 1344) (by decide +kernel)⟩
theorem lw_p66 : lw_okq (⟨"MixfixBenchModel", "isNumber", "(II)Z"⟩, 72) := ⟨⟨by decide +kernel, by decide +kernel⟩, List.mem_of_getElem? (i := 956) (by decide +kernel), List.mem_of_getElem? (i := 1347) (by decide +kernel), List.mem_of_getElem? (i := 1348) (by decide +kernel)⟩
theorem lw_p67 : lw_okq (⟨"MixfixBenchModel", "numberKind", "()I"⟩, 72) := ⟨⟨by decide +kernel, by decide +kernel⟩, List.mem_of_getElem? (i := 956) (by decide +kernel), List.mem_of_getElem? (i := 1351) (by decide +kernel), List.mem_of_getElem? (i := 1352) (by decide +kernel)⟩
theorem lw_p68 : lw_okq (⟨"MixfixBenchModel", "holeWays", "(IIII)J"⟩, 72) := ⟨⟨by decide +kernel, by decide +kernel⟩, List.mem_of_getElem? (i := 956) (by decide +kernel), List.mem_of_getElem? (i := 1355) (by decide +kernel), List.mem_of_getElem? (i := 1356) (by decide +kernel)⟩
theorem lw_p69 : lw_okq (⟨"MixfixBenchModel", "endOf", "(II)I"⟩, 72) := ⟨⟨by decide +kernel, by decide +kernel⟩, List.mem_of_getElem? (i := 956) (by decide +kernel), List.mem_of_getElem? (i := 1359) (by decide +kernel), List.mem_of_getElem? (i := 1360) (by decide +kernel)⟩
theorem lw_p70 : lw_okq (⟨"MixfixBenchModel", "letsRank", "(III)Z"⟩, 72) := ⟨⟨by decide +kernel, by decide +kernel⟩, List.mem_of_getElem? (i := 956) (by decide +kernel), List.mem_of_getElem? (i := 1363) (by decide +kernel), List.mem_of_getElem? (i := 1364) (by decide +kernel)⟩
theorem lw_p71 : lw_okq (⟨"MixfixBenchModel", "allWays", "(II)J"⟩, 72) := ⟨⟨by decide +kernel, by decide +kernel⟩, List.mem_of_getElem? (i := 956) (by decide +kernel), List.mem_of_getElem? (i := 1371) (by decide +kernel), List.mem_of_getElem? (i := 1372) (by decide +kernel)⟩
theorem lw_p72 : lw_okq (⟨"MixfixBenchModel", "pile", "(IIIIIJII)V"⟩, 72) := ⟨⟨by decide +kernel, by decide +kernel⟩, List.mem_of_getElem? (i := 956) (by decide +kernel), List.mem_of_getElem? (i := 1384) (by decide +kernel), List.mem_of_getElem? (i := 1385) (by decide +kernel)⟩
theorem lw_p73 : lw_okq (⟨"MixfixBenchModel", "open", "(I)V"⟩, 72) := ⟨⟨by decide +kernel, by decide +kernel⟩, List.mem_of_getElem? (i := 956) (by decide +kernel), List.mem_of_getElem? (i := 1388) (by decide +kernel), List.mem_of_getElem? (i := 1389) (by decide +kernel)⟩
theorem lw_p74 : lw_okq (⟨"MixfixBenchModel", "cut", "(IIIJI)V"⟩, 72) := ⟨⟨by decide +kernel, by decide +kernel⟩, List.mem_of_getElem? (i := 956) (by decide +kernel), List.mem_of_getElem? (i := 1392) (by decide +kernel), List.mem_of_getElem? (i := 1393) (by decide +kernel)⟩
theorem lw_p75 : lw_okq (⟨"MixfixBenchModel", "restWays", "(II)V"⟩, 72) := ⟨⟨by decide +kernel, by decide +kernel⟩, List.mem_of_getElem? (i := 956) (by decide +kernel), List.mem_of_getElem? (i := 1396) (by decide +kernel), List.mem_of_getElem? (i := 1397) (by decide +kernel)⟩
theorem lw_p76 : lw_okq (⟨"MixfixBenchModel", "behind", "(I)I"⟩, 72) := ⟨⟨by decide +kernel, by decide +kernel⟩, List.mem_of_getElem? (i := 956) (by decide +kernel), List.mem_of_getElem? (i := 1412) (by decide +kernel), List.mem_of_getElem? (i := 1413) (by decide +kernel)⟩
theorem lw_p77 : lw_okq (⟨"MixfixBenchModel", "isThrough", "(I)Z"⟩, 72) := ⟨⟨by decide +kernel, by decide +kernel⟩, List.mem_of_getElem? (i := 956) (by decide +kernel), List.mem_of_getElem? (i := 1416) (by decide +kernel), List.mem_of_getElem? (i := 1417) (by decide +kernel)⟩
theorem lw_p78 : lw_okq (⟨"MixfixBenchModel", "nextWithin", "(I)I"⟩, 72) := ⟨⟨by decide +kernel, by decide +kernel⟩, List.mem_of_getElem? (i := 956) (by decide +kernel), List.mem_of_getElem? (i := 1420) (by decide +kernel), List.mem_of_getElem? (i := 1421) (by decide +kernel)⟩
theorem lw_p79 : lw_okq (⟨"MixfixBenchModel", "value", "(I)I"⟩, 72) := ⟨⟨by decide +kernel, by decide +kernel⟩, List.mem_of_getElem? (i := 956) (by decide +kernel), List.mem_of_getElem? (i := 1424) (by decide +kernel), List.mem_of_getElem? (i := 1425) (by decide +kernel)⟩
def lw_privs_5 : List (MethodName × Nat) := [(⟨"MixfixBenchModel", "wordWays", "(III)J"⟩, 72), (⟨"MixfixBenchModel", "kindWays", "(III)J"⟩, 72), (⟨"MixfixBenchModel", "isNumber", "(II)Z"⟩, 72), (⟨"MixfixBenchModel", "numberKind", "()I"⟩, 72), (⟨"MixfixBenchModel", "holeWays", "(IIII)J"⟩, 72), (⟨"MixfixBenchModel", "endOf", "(II)I"⟩, 72), (⟨"MixfixBenchModel", "letsRank", "(III)Z"⟩, 72), (⟨"MixfixBenchModel", "allWays", "(II)J"⟩, 72), (⟨"MixfixBenchModel", "pile", "(IIIIIJII)V"⟩, 72), (⟨"MixfixBenchModel", "open", "(I)V"⟩, 72), (⟨"MixfixBenchModel", "cut", "(IIIJI)V"⟩, 72), (⟨"MixfixBenchModel", "restWays", "(II)V"⟩, 72), (⟨"MixfixBenchModel", "behind", "(I)I"⟩, 72), (⟨"MixfixBenchModel", "isThrough", "(I)Z"⟩, 72), (⟨"MixfixBenchModel", "nextWithin", "(I)I"⟩, 72), (⟨"MixfixBenchModel", "value", "(I)I"⟩, 72)]
theorem lw_r5 : ∀ q ∈ lw_privs_5, lw_okq q := List.forall_mem_cons.mpr ⟨lw_p64, List.forall_mem_cons.mpr ⟨lw_p65, List.forall_mem_cons.mpr ⟨lw_p66, List.forall_mem_cons.mpr ⟨lw_p67, List.forall_mem_cons.mpr ⟨lw_p68, List.forall_mem_cons.mpr ⟨lw_p69, List.forall_mem_cons.mpr ⟨lw_p70, List.forall_mem_cons.mpr ⟨lw_p71, List.forall_mem_cons.mpr ⟨lw_p72, List.forall_mem_cons.mpr ⟨lw_p73, List.forall_mem_cons.mpr ⟨lw_p74, List.forall_mem_cons.mpr ⟨lw_p75, List.forall_mem_cons.mpr ⟨lw_p76, List.forall_mem_cons.mpr ⟨lw_p77, List.forall_mem_cons.mpr ⟨lw_p78, List.forall_mem_cons.mpr ⟨lw_p79, fun _ h => absurd h List.not_mem_nil⟩⟩⟩⟩⟩⟩⟩⟩⟩⟩⟩⟩⟩⟩⟩⟩
theorem lw_p80 : lw_okq (⟨"MixfixBenchModel", "steps", "(II)I"⟩, 72) := ⟨⟨by decide +kernel, by decide +kernel⟩, List.mem_of_getElem? (i := 956) (by decide +kernel), List.mem_of_getElem? (i := 1428) (by decide +kernel), List.mem_of_getElem? (i := 1429) (by decide +kernel)⟩
theorem lw_p81 : lw_okq (⟨"MixfixBenchModel", "isAgainst", "(II)Z"⟩, 72) := ⟨⟨by decide +kernel, by decide +kernel⟩, List.mem_of_getElem? (i := 956) (by decide +kernel), List.mem_of_getElem? (i := 1440) (by decide +kernel), List.mem_of_getElem? (i := 1441) (by decide +kernel)⟩
def lw_privs_6 : List (MethodName × Nat) := [(⟨"MixfixBenchModel", "steps", "(II)I"⟩, 72), (⟨"MixfixBenchModel", "isAgainst", "(II)Z"⟩, 72)]
theorem lw_r6 : ∀ q ∈ lw_privs_6, lw_okq q := List.forall_mem_cons.mpr ⟨lw_p80, List.forall_mem_cons.mpr ⟨lw_p81, fun _ h => absurd h List.not_mem_nil⟩⟩
def lw_privs : List (MethodName × Nat) := lw_privs_1 ++ (lw_privs_2 ++ (lw_privs_3 ++ (lw_privs_4 ++ (lw_privs_5 ++ (lw_privs_6)))))
def lw_tbl : List Cond := k2_sels lw_privs ++ tables_1
theorem lw_privs_ok : ∀ q ∈ lw_privs, lw_okq q := by
  show ∀ q ∈ lw_privs_1 ++ (lw_privs_2 ++ (lw_privs_3 ++ (lw_privs_4 ++ (lw_privs_5 ++ (lw_privs_6))))), lw_okq q
  exact List.forall_mem_append.mpr ⟨lw_r1, List.forall_mem_append.mpr ⟨lw_r2, List.forall_mem_append.mpr ⟨lw_r3, List.forall_mem_append.mpr ⟨lw_r4, List.forall_mem_append.mpr ⟨lw_r5, lw_r6⟩⟩⟩⟩⟩
-- ===== end of PART A =====
def RX0 : String := "MixfixBench$Book"
def TX0 : u_T := fun k => match k with
  | 0 => ("MixfixBench$Book", "rankCount", "I", false)
  | 1 => ("MixfixBench$Book", "kindCount", "I", false)
  | 2 => ("MixfixBench$Book", "wordCount", "I", false)
  | 3 => ("MixfixBench$Book", "rankNames", "[J", true)
  | 4 => ("MixfixBench$Book", "looser", "[I", true)
  | 5 => ("MixfixBench$Book", "kindNames", "[J", true)
  | 6 => ("MixfixBench$Book", "above", "[I", true)
  | _ => ("MixfixBench$Book", "words", "[LMixfixBench$Word;", true)
def tyX0 : Nat → FieldType := fun k => match k with
  | 0 => .int
  | 1 => .int
  | 2 => .int
  | 3 => .array .long
  | 4 => .array .int
  | 5 => .array .long
  | 6 => .array .int
  | _ => .array (.object "MixfixBench$Word")
theorem nmX0 : ∀ a, a < 8 → ∀ b, b < 8 → a ≠ b → (TX0 a).2.1 ≠ (TX0 b).2.1 := by decide +kernel
theorem tyX0_ok : ∀ k, k < 8 → parseFieldDescriptor (TX0 k).2.2.1 = some (tyX0 k) := by decide +kernel
abbrev cX0_init : ByteArray := prog_2_method_1_code
def yX0_init : MethodName := ⟨RX0, "<init>", "()V"⟩
abbrev cX0_clear : ByteArray := prog_2_method_2_code
def yX0_clear : MethodName := ⟨RX0, "clear", "()V"⟩
abbrev cX0_hasRank : ByteArray := prog_2_method_3_code
def yX0_hasRank : MethodName := ⟨RX0, "hasRank", "(I)Z"⟩
abbrev cX0_hasKind : ByteArray := prog_2_method_4_code
def yX0_hasKind : MethodName := ⟨RX0, "hasKind", "(I)Z"⟩
abbrev cX0_hasWord : ByteArray := prog_2_method_5_code
def yX0_hasWord : MethodName := ⟨RX0, "hasWord", "(I)Z"⟩
abbrev cX0_rankNamed : ByteArray := prog_2_method_6_code
def yX0_rankNamed : MethodName := ⟨RX0, "rankNamed", "(J)I"⟩
abbrev cX0_kindNamed : ByteArray := prog_2_method_7_code
def yX0_kindNamed : MethodName := ⟨RX0, "kindNamed", "(J)I"⟩
abbrev cX0_indexOf : ByteArray := prog_2_method_8_code
def yX0_indexOf : MethodName := ⟨RX0, "indexOf", "([JIJ)I"⟩
abbrev cX0_addRank : ByteArray := prog_2_method_9_code
def yX0_addRank : MethodName := ⟨RX0, "addRank", "(J)V"⟩
abbrev cX0_addKind : ByteArray := prog_2_method_10_code
def yX0_addKind : MethodName := ⟨RX0, "addKind", "(JI)V"⟩
abbrev cX0_setTighter : ByteArray := prog_2_method_11_code
def yX0_setTighter : MethodName := ⟨RX0, "setTighter", "(II)V"⟩
abbrev cX0_isTighter : ByteArray := prog_2_method_12_code
def yX0_isTighter : MethodName := ⟨RX0, "isTighter", "(II)Z"⟩
abbrev cX0_isUnder : ByteArray := prog_2_method_13_code
def yX0_isUnder : MethodName := ⟨RX0, "isUnder", "(II)Z"⟩
abbrev cX0_numberKind : ByteArray := prog_2_method_14_code
def yX0_numberKind : MethodName := ⟨RX0, "numberKind", "()I"⟩
abbrev cX0_kindsUnder : ByteArray := prog_2_method_15_code
def yX0_kindsUnder : MethodName := ⟨RX0, "kindsUnder", "(I)I"⟩
abbrev cX0_wordsOfKinds : ByteArray := prog_2_method_16_code
def yX0_wordsOfKinds : MethodName := ⟨RX0, "wordsOfKinds", "(I)I"⟩
abbrev cX0_settleHoles : ByteArray := prog_2_method_17_code
def yX0_settleHoles : MethodName := ⟨RX0, "settleHoles", "()V"⟩
abbrev cX0_wordsFitting : ByteArray := prog_2_method_18_code
def yX0_wordsFitting : MethodName := ⟨RX0, "wordsFitting", "(LMixfixBench$Word;I)I"⟩
abbrev cX0_isAgainst : ByteArray := prog_2_method_19_code
def yX0_isAgainst : MethodName := ⟨RX0, "isAgainst", "(II)Z"⟩
abbrev cX0_hasPartTwice : ByteArray := prog_2_method_20_code
def yX0_hasPartTwice : MethodName := ⟨RX0, "hasPartTwice", "(LMixfixBench$Word;)Z"⟩
abbrev cX0_shareAPart : ByteArray := prog_2_method_21_code
def yX0_shareAPart : MethodName := ⟨RX0, "shareAPart", "(LMixfixBench$Word;LMixfixBench$Word;)Z"⟩
def RX1 : String := "MixfixBench$Chart"
def TX1 : u_T := fun k => match k with
  | 0 => ("MixfixBench$Chart", "book", "LMixfixBench$Book;", false)
  | 1 => ("MixfixBench$Chart", "sentence", "LMixfixBench$Sentence;", true)
  | 2 => ("MixfixBench$Chart", "filled", "Z", false)
  | 3 => ("MixfixBench$Chart", "ofKind", "[J", true)
  | 4 => ("MixfixBench$Chart", "ofWord", "[J", true)
  | 5 => ("MixfixBench$Chart", "ofAny", "[J", true)
  | 6 => ("MixfixBench$Chart", "ofHole", "[J", true)
  | _ => ("MixfixBench$Chart", "tails", "[J", true)
def tyX1 : Nat → FieldType := fun k => match k with
  | 0 => .object "MixfixBench$Book"
  | 1 => .object "MixfixBench$Sentence"
  | 2 => .boolean
  | 3 => .array .long
  | 4 => .array .long
  | 5 => .array .long
  | 6 => .array .long
  | _ => .array .long
theorem nmX1 : ∀ a, a < 8 → ∀ b, b < 8 → a ≠ b → (TX1 a).2.1 ≠ (TX1 b).2.1 := by decide +kernel
theorem tyX1_ok : ∀ k, k < 8 → parseFieldDescriptor (TX1 k).2.2.1 = some (tyX1 k) := by decide +kernel
abbrev cX1_init : ByteArray := prog_3_method_1_code
def yX1_init : MethodName := ⟨RX1, "<init>", "(LMixfixBench$Book;LMixfixBench$Sentence;)V"⟩
abbrev cX1_startOver : ByteArray := prog_3_method_2_code
def yX1_startOver : MethodName := ⟨RX1, "startOver", "(LMixfixBench$Book;)V"⟩
abbrev cX1_readingsOf : ByteArray := prog_3_method_3_code
def yX1_readingsOf : MethodName := ⟨RX1, "readingsOf", "(II)J"⟩
abbrev cX1_rowOf : ByteArray := prog_3_method_4_code
def yX1_rowOf : MethodName := ⟨RX1, "rowOf", "(II)I"⟩
abbrev cX1_tailOf : ByteArray := prog_3_method_5_code
def yX1_tailOf : MethodName := ⟨RX1, "tailOf", "(III)I"⟩
abbrev cX1_wordReadings : ByteArray := prog_3_method_6_code
def yX1_wordReadings : MethodName := ⟨RX1, "wordReadings", "(III)J"⟩
abbrev cX1_holeReadings : ByteArray := prog_3_method_7_code
def yX1_holeReadings : MethodName := ⟨RX1, "holeReadings", "(IIII)J"⟩
abbrev cX1_plainReadings : ByteArray := prog_3_method_8_code
def yX1_plainReadings : MethodName := ⟨RX1, "plainReadings", "(III)J"⟩
abbrev cX1_sumOfKinds : ByteArray := prog_3_method_9_code
def yX1_sumOfKinds : MethodName := ⟨RX1, "sumOfKinds", "(II)J"⟩
abbrev cX1_sumOfWords : ByteArray := prog_3_method_10_code
def yX1_sumOfWords : MethodName := ⟨RX1, "sumOfWords", "(II)J"⟩
abbrev cX1_fill : ByteArray := prog_3_method_11_code
def yX1_fill : MethodName := ⟨RX1, "fill", "()V"⟩
abbrev cX1_fillStretch : ByteArray := prog_3_method_12_code
def yX1_fillStretch : MethodName := ⟨RX1, "fillStretch", "(II)V"⟩
abbrev cX1_fillKinds : ByteArray := prog_3_method_13_code
def yX1_fillKinds : MethodName := ⟨RX1, "fillKinds", "(II)V"⟩
abbrev cX1_fillHoles : ByteArray := prog_3_method_14_code
def yX1_fillHoles : MethodName := ⟨RX1, "fillHoles", "(II)V"⟩
abbrev cX1_fillTails : ByteArray := prog_3_method_15_code
def yX1_fillTails : MethodName := ⟨RX1, "fillTails", "(III)V"⟩
abbrev cX1_prepareTails : ByteArray := prog_3_method_16_code
def yX1_prepareTails : MethodName := ⟨RX1, "prepareTails", "(III)V"⟩
abbrev cX1_ways : ByteArray := prog_3_method_17_code
def yX1_ways : MethodName := ⟨RX1, "ways", "(IIII)J"⟩
abbrev cX1_tail : ByteArray := prog_3_method_18_code
def yX1_tail : MethodName := ⟨RX1, "tail", "(IIII)J"⟩
def RX2 : String := "MixfixBench$Finder"
def TX2 : u_T := fun k => match k with
  | 0 => ("MixfixBench$Finder", "chart", "LMixfixBench$Chart;", true)
  | 1 => ("MixfixBench$Finder", "sentence", "LMixfixBench$Sentence;", true)
  | 2 => ("MixfixBench$Finder", "reading", "LMixfixBench$Reading;", true)
  | 3 => ("MixfixBench$Finder", "waiting", "I", false)
  | 4 => ("MixfixBench$Finder", "firsts", "[I", true)
  | 5 => ("MixfixBench$Finder", "ends", "[I", true)
  | 6 => ("MixfixBench$Finder", "parents", "[I", true)
  | 7 => ("MixfixBench$Finder", "holes", "[I", true)
  | 8 => ("MixfixBench$Finder", "words", "[I", true)
  | 9 => ("MixfixBench$Finder", "kinds", "[I", true)
  | 10 => ("MixfixBench$Finder", "numbers", "[J", true)
  | 11 => ("MixfixBench$Finder", "holeFirsts", "[I", true)
  | _ => ("MixfixBench$Finder", "holeEnds", "[I", true)
def tyX2 : Nat → FieldType := fun k => match k with
  | 0 => .object "MixfixBench$Chart"
  | 1 => .object "MixfixBench$Sentence"
  | 2 => .object "MixfixBench$Reading"
  | 3 => .int
  | 4 => .array .int
  | 5 => .array .int
  | 6 => .array .int
  | 7 => .array .int
  | 8 => .array .int
  | 9 => .array .int
  | 10 => .array .long
  | 11 => .array .int
  | _ => .array .int
theorem nmX2 : ∀ a, a < 13 → ∀ b, b < 13 → a ≠ b → (TX2 a).2.1 ≠ (TX2 b).2.1 := by decide +kernel
theorem tyX2_ok : ∀ k, k < 13 → parseFieldDescriptor (TX2 k).2.2.1 = some (tyX2 k) := by decide +kernel
abbrev cX2_init : ByteArray := prog_4_method_1_code
def yX2_init : MethodName := ⟨RX2, "<init>", "(LMixfixBench$Chart;LMixfixBench$Sentence;LMixfixBench$Reading;)V"⟩
abbrev cX2_find : ByteArray := prog_4_method_2_code
def yX2_find : MethodName := ⟨RX2, "find", "(J)V"⟩
abbrev cX2_await : ByteArray := prog_4_method_3_code
def yX2_await : MethodName := ⟨RX2, "await", "(IIII)V"⟩
abbrev cX2_demand : ByteArray := prog_4_method_4_code
def yX2_demand : MethodName := ⟨RX2, "demand", "(IIJ)V"⟩
abbrev cX2_makeNode : ByteArray := prog_4_method_5_code
def yX2_makeNode : MethodName := ⟨RX2, "makeNode", "()V"⟩
abbrev cX2_chooseWord : ByteArray := prog_4_method_6_code
def yX2_chooseWord : MethodName := ⟨RX2, "chooseWord", "(I)I"⟩
abbrev cX2_splitWord : ByteArray := prog_4_method_7_code
def yX2_splitWord : MethodName := ⟨RX2, "splitWord", "(IIIJ)J"⟩
abbrev cX2_fillWord : ByteArray := prog_4_method_8_code
def yX2_fillWord : MethodName := ⟨RX2, "fillWord", "(IIJ)V"⟩
def RX3 : String := "MixfixBench$Lexer"
def TX3 : u_T := fun k => match k with
  | 0 => ("MixfixBench$Lexer", "tape", "LMixfixBench$Tape;", true)
  | 1 => ("MixfixBench$Lexer", "at", "I", false)
  | 2 => ("MixfixBench$Lexer", "count", "I", false)
  | 3 => ("MixfixBench$Lexer", "sorts", "[I", true)
  | 4 => ("MixfixBench$Lexer", "places", "[I", true)
  | 5 => ("MixfixBench$Lexer", "contents", "[J", true)
  | _ => ("MixfixBench$Lexer", "current", "I", false)
def tyX3 : Nat → FieldType := fun k => match k with
  | 0 => .object "MixfixBench$Tape"
  | 1 => .int
  | 2 => .int
  | 3 => .array .int
  | 4 => .array .int
  | 5 => .array .long
  | _ => .int
theorem nmX3 : ∀ a, a < 7 → ∀ b, b < 7 → a ≠ b → (TX3 a).2.1 ≠ (TX3 b).2.1 := by decide +kernel
theorem tyX3_ok : ∀ k, k < 7 → parseFieldDescriptor (TX3 k).2.2.1 = some (tyX3 k) := by decide +kernel
abbrev cX3_init : ByteArray := prog_5_method_1_code
def yX3_init : MethodName := ⟨RX3, "<init>", "(LMixfixBench$Tape;)V"⟩
abbrev cX3_sort : ByteArray := prog_5_method_2_code
def yX3_sort : MethodName := ⟨RX3, "sort", "()I"⟩
abbrev cX3_place : ByteArray := prog_5_method_3_code
def yX3_place : MethodName := ⟨RX3, "place", "()I"⟩
abbrev cX3_content : ByteArray := prog_5_method_4_code
def yX3_content : MethodName := ⟨RX3, "content", "()J"⟩
abbrev cX3_isKeyword : ByteArray := prog_5_method_5_code
def yX3_isKeyword : MethodName := ⟨RX3, "isKeyword", "(J)Z"⟩
abbrev cX3_advance : ByteArray := prog_5_method_6_code
def yX3_advance : MethodName := ⟨RX3, "advance", "()V"⟩
abbrev cX3_start : ByteArray := prog_5_method_7_code
def yX3_start : MethodName := ⟨RX3, "start", "()V"⟩
abbrev cX3_takeToken : ByteArray := prog_5_method_8_code
def yX3_takeToken : MethodName := ⟨RX3, "takeToken", "(I)I"⟩
abbrev cX3_takeName : ByteArray := prog_5_method_9_code
def yX3_takeName : MethodName := ⟨RX3, "takeName", "()I"⟩
abbrev cX3_takeNumber : ByteArray := prog_5_method_10_code
def yX3_takeNumber : MethodName := ⟨RX3, "takeNumber", "()I"⟩
abbrev cX3_takePart : ByteArray := prog_5_method_11_code
def yX3_takePart : MethodName := ⟨RX3, "takePart", "()I"⟩
abbrev cX3_takeSign : ByteArray := prog_5_method_12_code
def yX3_takeSign : MethodName := ⟨RX3, "takeSign", "(I)I"⟩
abbrev cX3_isReserved : ByteArray := prog_5_method_13_code
def yX3_isReserved : MethodName := ⟨RX3, "isReserved", "(J)Z"⟩
abbrev cX3_isLetter : ByteArray := prog_5_method_14_code
def yX3_isLetter : MethodName := ⟨RX3, "isLetter", "(I)Z"⟩
abbrev cX3_isLetterOrDigit : ByteArray := prog_5_method_15_code
def yX3_isLetterOrDigit : MethodName := ⟨RX3, "isLetterOrDigit", "(I)Z"⟩
abbrev cX3_isPartByte : ByteArray := prog_5_method_16_code
def yX3_isPartByte : MethodName := ⟨RX3, "isPartByte", "(I)Z"⟩
abbrev cX3_isSign : ByteArray := prog_5_method_17_code
def yX3_isSign : MethodName := ⟨RX3, "isSign", "(I)Z"⟩
def RX4 : String := "MixfixBench$Parser"
def TX4 : u_T := fun k => match k with
  | 0 => ("MixfixBench$Parser", "lexer", "LMixfixBench$Lexer;", true)
  | 1 => ("MixfixBench$Parser", "book", "LMixfixBench$Book;", false)
  | 2 => ("MixfixBench$Parser", "fault", "I", false)
  | _ => ("MixfixBench$Parser", "faultPlace", "I", false)
def tyX4 : Nat → FieldType := fun k => match k with
  | 0 => .object "MixfixBench$Lexer"
  | 1 => .object "MixfixBench$Book"
  | 2 => .int
  | _ => .int
theorem nmX4 : ∀ a, a < 4 → ∀ b, b < 4 → a ≠ b → (TX4 a).2.1 ≠ (TX4 b).2.1 := by decide +kernel
theorem tyX4_ok : ∀ k, k < 4 → parseFieldDescriptor (TX4 k).2.2.1 = some (tyX4 k) := by decide +kernel
abbrev cX4_init : ByteArray := prog_6_method_1_code
def yX4_init : MethodName := ⟨RX4, "<init>", "(LMixfixBench$Tape;LMixfixBench$Book;)V"⟩
abbrev cX4_parse : ByteArray := prog_6_method_2_code
def yX4_parse : MethodName := ⟨RX4, "parse", "(LMixfixBench$Book;)Z"⟩
abbrev cX4_blame : ByteArray := prog_6_method_3_code
def yX4_blame : MethodName := ⟨RX4, "blame", "(II)V"⟩
abbrev cX4_refuse : ByteArray := prog_6_method_4_code
def yX4_refuse : MethodName := ⟨RX4, "refuse", "()V"⟩
abbrev cX4_pass : ByteArray := prog_6_method_5_code
def yX4_pass : MethodName := ⟨RX4, "pass", "(I)Z"⟩
abbrev cX4_parseRank : ByteArray := prog_6_method_6_code
def yX4_parseRank : MethodName := ⟨RX4, "parseRank", "()V"⟩
abbrev cX4_parseTighter : ByteArray := prog_6_method_7_code
def yX4_parseTighter : MethodName := ⟨RX4, "parseTighter", "()V"⟩
abbrev cX4_parseKind : ByteArray := prog_6_method_8_code
def yX4_parseKind : MethodName := ⟨RX4, "parseKind", "()V"⟩
abbrev cX4_passRank : ByteArray := prog_6_method_9_code
def yX4_passRank : MethodName := ⟨RX4, "passRank", "()I"⟩
abbrev cX4_passKind : ByteArray := prog_6_method_10_code
def yX4_passKind : MethodName := ⟨RX4, "passKind", "()I"⟩
abbrev cX4_passName : ByteArray := prog_6_method_11_code
def yX4_passName : MethodName := ⟨RX4, "passName", "(I)I"⟩
abbrev cX4_parseWord : ByteArray := prog_6_method_12_code
def yX4_parseWord : MethodName := ⟨RX4, "parseWord", "()V"⟩
abbrev cX4_parseLean : ByteArray := prog_6_method_13_code
def yX4_parseLean : MethodName := ⟨RX4, "parseLean", "(LMixfixBench$Word;)V"⟩
abbrev cX4_parseElements : ByteArray := prog_6_method_14_code
def yX4_parseElements : MethodName := ⟨RX4, "parseElements", "(LMixfixBench$Word;)Z"⟩
abbrev cX4_parseSteps : ByteArray := prog_6_method_15_code
def yX4_parseSteps : MethodName := ⟨RX4, "parseSteps", "(LMixfixBench$Word;)Z"⟩
abbrev cX4_parseStep : ByteArray := prog_6_method_16_code
def yX4_parseStep : MethodName := ⟨RX4, "parseStep", "(LMixfixBench$Word;I)I"⟩
abbrev cX4_isNumber : ByteArray := prog_6_method_17_code
def yX4_isNumber : MethodName := ⟨RX4, "isNumber", "()Z"⟩
abbrev cX4_isOperation : ByteArray := prog_6_method_18_code
def yX4_isOperation : MethodName := ⟨RX4, "isOperation", "(I)Z"⟩
def RX5 : String := "MixfixBench$Reading"
def TX5 : u_T := fun k => match k with
  | 0 => ("MixfixBench$Reading", "count", "I", false)
  | 1 => ("MixfixBench$Reading", "word", "[I", true)
  | 2 => ("MixfixBench$Reading", "first", "[I", true)
  | 3 => ("MixfixBench$Reading", "length", "[I", true)
  | 4 => ("MixfixBench$Reading", "parent", "[I", true)
  | 5 => ("MixfixBench$Reading", "hole", "[I", true)
  | _ => ("MixfixBench$Reading", "children", "[I", true)
def tyX5 : Nat → FieldType := fun k => match k with
  | 0 => .int
  | 1 => .array .int
  | 2 => .array .int
  | 3 => .array .int
  | 4 => .array .int
  | 5 => .array .int
  | _ => .array .int
theorem nmX5 : ∀ a, a < 7 → ∀ b, b < 7 → a ≠ b → (TX5 a).2.1 ≠ (TX5 b).2.1 := by decide +kernel
theorem tyX5_ok : ∀ k, k < 7 → parseFieldDescriptor (TX5 k).2.2.1 = some (tyX5 k) := by decide +kernel
abbrev cX5_init : ByteArray := prog_7_method_1_code
def yX5_init : MethodName := ⟨RX5, "<init>", "()V"⟩
abbrev cX5_clear : ByteArray := prog_7_method_2_code
def yX5_clear : MethodName := ⟨RX5, "clear", "()V"⟩
abbrev cX5_add : ByteArray := prog_7_method_3_code
def yX5_add : MethodName := ⟨RX5, "add", "(IIIII)I"⟩
abbrev cX5_childOf : ByteArray := prog_7_method_4_code
def yX5_childOf : MethodName := ⟨RX5, "childOf", "(II)I"⟩
def RX6 : String := "MixfixBench$Sentence"
def TX6 : u_T := fun k => match k with
  | 0 => ("MixfixBench$Sentence", "count", "I", false)
  | 1 => ("MixfixBench$Sentence", "texts", "[J", true)
  | _ => ("MixfixBench$Sentence", "draft", "[J", true)
def tyX6 : Nat → FieldType := fun k => match k with
  | 0 => .int
  | 1 => .array .long
  | _ => .array .long
theorem nmX6 : ∀ a, a < 3 → ∀ b, b < 3 → a ≠ b → (TX6 a).2.1 ≠ (TX6 b).2.1 := by decide +kernel
theorem tyX6_ok : ∀ k, k < 3 → parseFieldDescriptor (TX6 k).2.2.1 = some (tyX6 k) := by decide +kernel
abbrev cX6_init : ByteArray := prog_8_method_1_code
def yX6_init : MethodName := ⟨RX6, "<init>", "()V"⟩
abbrev cX6_readFrom : ByteArray := prog_8_method_2_code
def yX6_readFrom : MethodName := ⟨RX6, "readFrom", "(LMixfixBench$Tape;)Z"⟩
abbrev cX6_isNumber : ByteArray := prog_8_method_3_code
def yX6_isNumber : MethodName := ⟨RX6, "isNumber", "(I)Z"⟩
abbrev cX6_numberAt : ByteArray := prog_8_method_4_code
def yX6_numberAt : MethodName := ⟨RX6, "numberAt", "(I)I"⟩
abbrev cX6_isBracketed : ByteArray := prog_8_method_5_code
def yX6_isBracketed : MethodName := ⟨RX6, "isBracketed", "(II)Z"⟩
def RX7 : String := "MixfixBench$Tape"
def TX7 : u_T := fun k => match k with
  | 0 => ("MixfixBench$Tape", "bytes", "[B", true)
  | _ => ("MixfixBench$Tape", "length", "I", false)
def tyX7 : Nat → FieldType := fun k => match k with
  | 0 => .array .byte
  | _ => .int
theorem nmX7 : ∀ a, a < 2 → ∀ b, b < 2 → a ≠ b → (TX7 a).2.1 ≠ (TX7 b).2.1 := by decide +kernel
theorem tyX7_ok : ∀ k, k < 2 → parseFieldDescriptor (TX7 k).2.2.1 = some (tyX7 k) := by decide +kernel
abbrev cX7_init : ByteArray := prog_9_method_1_code
def yX7_init : MethodName := ⟨RX7, "<init>", "()V"⟩
abbrev cX7_append : ByteArray := prog_9_method_2_code
def yX7_append : MethodName := ⟨RX7, "append", "(I)V"⟩
abbrev cX7_byteAt : ByteArray := prog_9_method_3_code
def yX7_byteAt : MethodName := ⟨RX7, "byteAt", "(I)I"⟩
def RX8 : String := "MixfixBench$Word"
def TX8 : u_T := fun k => match k with
  | 0 => ("MixfixBench$Word", "rank", "I", false)
  | 1 => ("MixfixBench$Word", "lean", "I", false)
  | 2 => ("MixfixBench$Word", "kind", "I", false)
  | 3 => ("MixfixBench$Word", "size", "I", false)
  | 4 => ("MixfixBench$Word", "holes", "I", false)
  | 5 => ("MixfixBench$Word", "steps", "I", false)
  | 6 => ("MixfixBench$Word", "bound", "Z", false)
  | 7 => ("MixfixBench$Word", "value", "I", false)
  | 8 => ("MixfixBench$Word", "parts", "[J", true)
  | 9 => ("MixfixBench$Word", "holeAt", "[I", true)
  | 10 => ("MixfixBench$Word", "holeKinds", "[I", true)
  | 11 => ("MixfixBench$Word", "takenWords", "[I", true)
  | 12 => ("MixfixBench$Word", "takenKinds", "[I", true)
  | 13 => ("MixfixBench$Word", "stepSigns", "[I", true)
  | _ => ("MixfixBench$Word", "stepValues", "[I", true)
def tyX8 : Nat → FieldType := fun k => match k with
  | 0 => .int
  | 1 => .int
  | 2 => .int
  | 3 => .int
  | 4 => .int
  | 5 => .int
  | 6 => .boolean
  | 7 => .int
  | 8 => .array .long
  | 9 => .array .int
  | 10 => .array .int
  | 11 => .array .int
  | 12 => .array .int
  | 13 => .array .int
  | _ => .array .int
theorem nmX8 : ∀ a, a < 15 → ∀ b, b < 15 → a ≠ b → (TX8 a).2.1 ≠ (TX8 b).2.1 := by decide +kernel
theorem tyX8_ok : ∀ k, k < 15 → parseFieldDescriptor (TX8 k).2.2.1 = some (tyX8 k) := by decide +kernel
abbrev cX8_init : ByteArray := prog_10_method_1_code
def yX8_init : MethodName := ⟨RX8, "<init>", "()V"⟩
abbrev cX8_clear : ByteArray := prog_10_method_2_code
def yX8_clear : MethodName := ⟨RX8, "clear", "(I)V"⟩
abbrev cX8_addPart : ByteArray := prog_10_method_3_code
def yX8_addPart : MethodName := ⟨RX8, "addPart", "(J)V"⟩
abbrev cX8_mayTakeHole : ByteArray := prog_10_method_4_code
def yX8_mayTakeHole : MethodName := ⟨RX8, "mayTakeHole", "()Z"⟩
abbrev cX8_addHole : ByteArray := prog_10_method_5_code
def yX8_addHole : MethodName := ⟨RX8, "addHole", "(I)V"⟩
abbrev cX8_addStep : ByteArray := prog_10_method_6_code
def yX8_addStep : MethodName := ⟨RX8, "addStep", "(II)V"⟩
abbrev cX8_isHole : ByteArray := prog_10_method_7_code
def yX8_isHole : MethodName := ⟨RX8, "isHole", "(I)Z"⟩
abbrev cX8_ends : ByteArray := prog_10_method_8_code
def yX8_ends : MethodName := ⟨RX8, "ends", "()I"⟩
abbrev cX8_isClosed : ByteArray := prog_10_method_9_code
def yX8_isClosed : MethodName := ⟨RX8, "isClosed", "()Z"⟩
abbrev cX8_hasPart : ByteArray := prog_10_method_10_code
def yX8_hasPart : MethodName := ⟨RX8, "hasPart", "(J)Z"⟩
def RX9 : String := "MixfixBench$Worker"
def TX9 : u_T := fun k => match k with
  | 0 => ("MixfixBench$Worker", "sentence", "LMixfixBench$Sentence;", true)
  | 1 => ("MixfixBench$Worker", "reading", "LMixfixBench$Reading;", true)
  | 2 => ("MixfixBench$Worker", "result", "I", false)
  | 3 => ("MixfixBench$Worker", "endedAt", "I", false)
  | 4 => ("MixfixBench$Worker", "values", "[I", true)
  | 5 => ("MixfixBench$Worker", "pile", "[I", true)
  | _ => ("MixfixBench$Worker", "height", "I", false)
def tyX9 : Nat → FieldType := fun k => match k with
  | 0 => .object "MixfixBench$Sentence"
  | 1 => .object "MixfixBench$Reading"
  | 2 => .int
  | 3 => .int
  | 4 => .array .int
  | 5 => .array .int
  | _ => .int
theorem nmX9 : ∀ a, a < 7 → ∀ b, b < 7 → a ≠ b → (TX9 a).2.1 ≠ (TX9 b).2.1 := by decide +kernel
theorem tyX9_ok : ∀ k, k < 7 → parseFieldDescriptor (TX9 k).2.2.1 = some (tyX9 k) := by decide +kernel
abbrev cX9_init : ByteArray := prog_11_method_1_code
def yX9_init : MethodName := ⟨RX9, "<init>", "(LMixfixBench$Sentence;LMixfixBench$Reading;)V"⟩
abbrev cX9_forget : ByteArray := prog_11_method_2_code
def yX9_forget : MethodName := ⟨RX9, "forget", "()V"⟩
abbrev cX9_run : ByteArray := prog_11_method_3_code
def yX9_run : MethodName := ⟨RX9, "run", "(LMixfixBench$Book;)I"⟩
abbrev cX9_workNode : ByteArray := prog_11_method_4_code
def yX9_workNode : MethodName := ⟨RX9, "workNode", "(LMixfixBench$Book;I)I"⟩
abbrev cX9_runSteps : ByteArray := prog_11_method_5_code
def yX9_runSteps : MethodName := ⟨RX9, "runSteps", "(LMixfixBench$Word;I)Z"⟩
abbrev cX9_push : ByteArray := prog_11_method_6_code
def yX9_push : MethodName := ⟨RX9, "push", "(I)V"⟩
abbrev cX9_operate : ByteArray := prog_11_method_7_code
def yX9_operate : MethodName := ⟨RX9, "operate", "(I)Z"⟩
abbrev cX9_outcome : ByteArray := prog_11_method_8_code
def yX9_outcome : MethodName := ⟨RX9, "outcome", "(III)I"⟩
def RX10 : String := "MixfixBench"
def TX10 : u_T := fun k => match k with
  | 0 => ("MixfixBench", "tape", "LMixfixBench$Tape;", true)
  | 1 => ("MixfixBench", "inUse", "LMixfixBench$Book;", false)
  | 2 => ("MixfixBench", "spare", "LMixfixBench$Book;", false)
  | 3 => ("MixfixBench", "parser", "LMixfixBench$Parser;", true)
  | 4 => ("MixfixBench", "tokens", "LMixfixBench$Sentence;", true)
  | 5 => ("MixfixBench", "reading", "LMixfixBench$Reading;", true)
  | 6 => ("MixfixBench", "chart", "LMixfixBench$Chart;", true)
  | 7 => ("MixfixBench", "finder", "LMixfixBench$Finder;", true)
  | _ => ("MixfixBench", "worker", "LMixfixBench$Worker;", true)
def tyX10 : Nat → FieldType := fun k => match k with
  | 0 => .object "MixfixBench$Tape"
  | 1 => .object "MixfixBench$Book"
  | 2 => .object "MixfixBench$Book"
  | 3 => .object "MixfixBench$Parser"
  | 4 => .object "MixfixBench$Sentence"
  | 5 => .object "MixfixBench$Reading"
  | 6 => .object "MixfixBench$Chart"
  | 7 => .object "MixfixBench$Finder"
  | _ => .object "MixfixBench$Worker"
theorem nmX10 : ∀ a, a < 9 → ∀ b, b < 9 → a ≠ b → (TX10 a).2.1 ≠ (TX10 b).2.1 := by decide +kernel
theorem tyX10_ok : ∀ k, k < 9 → parseFieldDescriptor (TX10 k).2.2.1 = some (tyX10 k) := by decide +kernel
abbrev cX10_init : ByteArray := prog_1_method_1_code
def yX10_init : MethodName := ⟨RX10, "<init>", "()V"⟩
abbrev cX10_feed : ByteArray := prog_1_method_2_code
def yX10_feed : MethodName := ⟨RX10, "feed", "(IIIII)I"⟩
abbrev cX10_end : ByteArray := prog_1_method_3_code
def yX10_end : MethodName := ⟨RX10, "end", "(I)I"⟩
abbrev cX10_book : ByteArray := prog_1_method_4_code
def yX10_book : MethodName := ⟨RX10, "book", "()I"⟩
abbrev cX10_fault : ByteArray := prog_1_method_5_code
def yX10_fault : MethodName := ⟨RX10, "fault", "(I)I"⟩
abbrev cX10_about : ByteArray := prog_1_method_6_code
def yX10_about : MethodName := ⟨RX10, "about", "(I)I"⟩
abbrev cX10_word : ByteArray := prog_1_method_7_code
def yX10_word : MethodName := ⟨RX10, "word", "(II)I"⟩
abbrev cX10_tighter : ByteArray := prog_1_method_8_code
def yX10_tighter : MethodName := ⟨RX10, "tighter", "(II)I"⟩
abbrev cX10_under : ByteArray := prog_1_method_9_code
def yX10_under : MethodName := ⟨RX10, "under", "(II)I"⟩
abbrev cX10_sentence : ByteArray := prog_1_method_10_code
def yX10_sentence : MethodName := ⟨RX10, "sentence", "()I"⟩
abbrev cX10_count : ByteArray := prog_1_method_11_code
def yX10_count : MethodName := ⟨RX10, "count", "(II)J"⟩
abbrev cX10_quarrel : ByteArray := prog_1_method_12_code
def yX10_quarrel : MethodName := ⟨RX10, "quarrel", "()I"⟩
abbrev cX10_read : ByteArray := prog_1_method_13_code
def yX10_read : MethodName := ⟨RX10, "read", "(J)I"⟩
abbrev cX10_node : ByteArray := prog_1_method_14_code
def yX10_node : MethodName := ⟨RX10, "node", "(II)I"⟩
abbrev cX10_bind : ByteArray := prog_1_method_15_code
def yX10_bind : MethodName := ⟨RX10, "bind", "(II)Z"⟩
abbrev cX10_work : ByteArray := prog_1_method_16_code
def yX10_work : MethodName := ⟨RX10, "work", "()I"⟩
abbrev cX10_worked : ByteArray := prog_1_method_17_code
def yX10_worked : MethodName := ⟨RX10, "worked", "(I)I"⟩
abbrev cX10_sure : ByteArray := prog_1_method_18_code
def yX10_sure : MethodName := ⟨RX10, "sure", "()I"⟩
abbrev cX10_dropReading : ByteArray := prog_1_method_19_code
def yX10_dropReading : MethodName := ⟨RX10, "dropReading", "()V"⟩
abbrev cX10_hasBit : ByteArray := prog_1_method_20_code
def yX10_hasBit : MethodName := ⟨RX10, "hasBit", "(II)Z"⟩
abbrev cX10_isDigit : ByteArray := prog_1_method_21_code
def yX10_isDigit : MethodName := ⟨RX10, "isDigit", "(I)Z"⟩
abbrev cX10_isBlank : ByteArray := prog_1_method_22_code
def yX10_isBlank : MethodName := ⟨RX10, "isBlank", "(I)Z"⟩
abbrev cX10_plus : ByteArray := prog_1_method_23_code
def yX10_plus : MethodName := ⟨RX10, "plus", "(JJ)J"⟩
abbrev cX10_times : ByteArray := prog_1_method_24_code
def yX10_times : MethodName := ⟨RX10, "times", "(JJ)J"⟩
def RX11 : String := "MixfixBenchModel"
def TX11 : u_T := fun k => match k with
  | 0 => ("MixfixBenchModel", "tape", "[B", true)
  | 1 => ("MixfixBenchModel", "taped", "I", false)
  | 2 => ("MixfixBenchModel", "text", "[B", true)
  | 3 => ("MixfixBenchModel", "size", "I", false)
  | 4 => ("MixfixBenchModel", "bank", "I", false)
  | 5 => ("MixfixBenchModel", "faultKind", "I", false)
  | 6 => ("MixfixBenchModel", "faultPlace", "I", false)
  | 7 => ("MixfixBenchModel", "at", "I", false)
  | 8 => ("MixfixBenchModel", "end", "I", false)
  | 9 => ("MixfixBenchModel", "token", "I", false)
  | 10 => ("MixfixBenchModel", "number", "I", false)
  | 11 => ("MixfixBenchModel", "digits", "I", false)
  | 12 => ("MixfixBenchModel", "name", "J", false)
  | 13 => ("MixfixBenchModel", "rName", "[J", true)
  | 14 => ("MixfixBenchModel", "kName", "[J", true)
  | 15 => ("MixfixBenchModel", "isTighter", "[Z", true)
  | 16 => ("MixfixBenchModel", "kUp", "[I", true)
  | 17 => ("MixfixBenchModel", "wRank", "[I", true)
  | 18 => ("MixfixBenchModel", "wLean", "[I", true)
  | 19 => ("MixfixBenchModel", "wKind", "[I", true)
  | 20 => ("MixfixBenchModel", "wMany", "[I", true)
  | 21 => ("MixfixBenchModel", "wHoles", "[I", true)
  | 22 => ("MixfixBenchModel", "wSteps", "[I", true)
  | 23 => ("MixfixBenchModel", "sOp", "[I", true)
  | 24 => ("MixfixBenchModel", "sNumber", "[I", true)
  | 25 => ("MixfixBenchModel", "ePart", "[J", true)
  | 26 => ("MixfixBenchModel", "eHole", "[I", true)
  | 27 => ("MixfixBenchModel", "hKind", "[I", true)
  | 28 => ("MixfixBenchModel", "ranks", "I", false)
  | 29 => ("MixfixBenchModel", "kinds", "I", false)
  | 30 => ("MixfixBenchModel", "words", "I", false)
  | 31 => ("MixfixBenchModel", "bRanks", "I", false)
  | 32 => ("MixfixBenchModel", "bKinds", "I", false)
  | 33 => ("MixfixBenchModel", "bWords", "I", false)
  | 34 => ("MixfixBenchModel", "tName", "[J", true)
  | 35 => ("MixfixBenchModel", "newName", "[J", true)
  | 36 => ("MixfixBenchModel", "tNumber", "[I", true)
  | 37 => ("MixfixBenchModel", "newNumber", "[I", true)
  | 38 => ("MixfixBenchModel", "tokens", "I", false)
  | 39 => ("MixfixBenchModel", "ofWord", "[J", true)
  | 40 => ("MixfixBenchModel", "ofBrackets", "[J", true)
  | 41 => ("MixfixBenchModel", "ofHole", "[J", true)
  | 42 => ("MixfixBenchModel", "rowNow", "[J", true)
  | 43 => ("MixfixBenchModel", "rowNext", "[J", true)
  | 44 => ("MixfixBenchModel", "nWord", "[I", true)
  | 45 => ("MixfixBenchModel", "nFirst", "[I", true)
  | 46 => ("MixfixBenchModel", "nMany", "[I", true)
  | 47 => ("MixfixBenchModel", "nUp", "[I", true)
  | 48 => ("MixfixBenchModel", "nHole", "[I", true)
  | 49 => ("MixfixBenchModel", "nodes", "I", false)
  | 50 => ("MixfixBenchModel", "pFrom", "[I", true)
  | 51 => ("MixfixBenchModel", "pTo", "[I", true)
  | 52 => ("MixfixBenchModel", "pNeed", "[I", true)
  | 53 => ("MixfixBenchModel", "pOf", "[I", true)
  | 54 => ("MixfixBenchModel", "pEnd", "[I", true)
  | 55 => ("MixfixBenchModel", "pUp", "[I", true)
  | 56 => ("MixfixBenchModel", "pHole", "[I", true)
  | 57 => ("MixfixBenchModel", "pK", "[J", true)
  | 58 => ("MixfixBenchModel", "piled", "I", false)
  | 59 => ("MixfixBenchModel", "cFrom", "[I", true)
  | 60 => ("MixfixBenchModel", "cTo", "[I", true)
  | 61 => ("MixfixBenchModel", "cWays", "[J", true)
  | 62 => ("MixfixBenchModel", "rest", "[J", true)
  | 63 => ("MixfixBenchModel", "isBound", "[Z", true)
  | 64 => ("MixfixBenchModel", "bound", "[I", true)
  | 65 => ("MixfixBenchModel", "nValue", "[I", true)
  | 66 => ("MixfixBenchModel", "numbers", "[I", true)
  | 67 => ("MixfixBenchModel", "holes", "[I", true)
  | 68 => ("MixfixBenchModel", "isWorked", "Z", false)
  | 69 => ("MixfixBenchModel", "workedAt", "I", false)
  | 70 => ("MixfixBenchModel", "worked", "I", false)
  | _ => ("MixfixBenchModel", "through", "[Z", true)
def tyX11 : Nat → FieldType := fun k => match k with
  | 0 => .array .byte
  | 1 => .int
  | 2 => .array .byte
  | 3 => .int
  | 4 => .int
  | 5 => .int
  | 6 => .int
  | 7 => .int
  | 8 => .int
  | 9 => .int
  | 10 => .int
  | 11 => .int
  | 12 => .long
  | 13 => .array .long
  | 14 => .array .long
  | 15 => .array .boolean
  | 16 => .array .int
  | 17 => .array .int
  | 18 => .array .int
  | 19 => .array .int
  | 20 => .array .int
  | 21 => .array .int
  | 22 => .array .int
  | 23 => .array .int
  | 24 => .array .int
  | 25 => .array .long
  | 26 => .array .int
  | 27 => .array .int
  | 28 => .int
  | 29 => .int
  | 30 => .int
  | 31 => .int
  | 32 => .int
  | 33 => .int
  | 34 => .array .long
  | 35 => .array .long
  | 36 => .array .int
  | 37 => .array .int
  | 38 => .int
  | 39 => .array .long
  | 40 => .array .long
  | 41 => .array .long
  | 42 => .array .long
  | 43 => .array .long
  | 44 => .array .int
  | 45 => .array .int
  | 46 => .array .int
  | 47 => .array .int
  | 48 => .array .int
  | 49 => .int
  | 50 => .array .int
  | 51 => .array .int
  | 52 => .array .int
  | 53 => .array .int
  | 54 => .array .int
  | 55 => .array .int
  | 56 => .array .int
  | 57 => .array .long
  | 58 => .int
  | 59 => .array .int
  | 60 => .array .int
  | 61 => .array .long
  | 62 => .array .long
  | 63 => .array .boolean
  | 64 => .array .int
  | 65 => .array .int
  | 66 => .array .int
  | 67 => .array .int
  | 68 => .boolean
  | 69 => .int
  | 70 => .int
  | _ => .array .boolean
theorem nmX11 : ∀ a, a < 72 → ∀ b, b < 72 → a ≠ b → (TX11 a).2.1 ≠ (TX11 b).2.1 := by decide +kernel
theorem tyX11_ok : ∀ k, k < 72 → parseFieldDescriptor (TX11 k).2.2.1 = some (tyX11 k) := by decide +kernel
abbrev cX11_sign : ByteArray := prog_13_method_1_code
def yX11_sign : MethodName := ⟨RX11, "sign", "(I)I"⟩
abbrev cX11_isLetter : ByteArray := prog_13_method_2_code
def yX11_isLetter : MethodName := ⟨RX11, "isLetter", "(I)Z"⟩
abbrev cX11_isDigit : ByteArray := prog_13_method_3_code
def yX11_isDigit : MethodName := ⟨RX11, "isDigit", "(I)Z"⟩
abbrev cX11_fails : ByteArray := prog_13_method_4_code
def yX11_fails : MethodName := ⟨RX11, "fails", "(II)V"⟩
abbrev cX11_isGood : ByteArray := prog_13_method_5_code
def yX11_isGood : MethodName := ⟨RX11, "isGood", "()Z"⟩
abbrev cX11_next : ByteArray := prog_13_method_6_code
def yX11_next : MethodName := ⟨RX11, "next", "()V"⟩
abbrev cX11_pack : ByteArray := prog_13_method_7_code
def yX11_pack : MethodName := ⟨RX11, "pack", "(II)V"⟩
abbrev cX11_nextPart : ByteArray := prog_13_method_8_code
def yX11_nextPart : MethodName := ⟨RX11, "nextPart", "()V"⟩
abbrev cX11_isPartSign : ByteArray := prog_13_method_9_code
def yX11_isPartSign : MethodName := ⟨RX11, "isPartSign", "(I)Z"⟩
abbrev cX11_is : ByteArray := prog_13_method_10_code
def yX11_is : MethodName := ⟨RX11, "is", "(I)Z"⟩
abbrev cX11_isWord : ByteArray := prog_13_method_11_code
def yX11_isWord : MethodName := ⟨RX11, "isWord", "(J)Z"⟩
abbrev cX11_wrong : ByteArray := prog_13_method_12_code
def yX11_wrong : MethodName := ⟨RX11, "wrong", "()V"⟩
abbrev cX11_must : ByteArray := prog_13_method_13_code
def yX11_must : MethodName := ⟨RX11, "must", "(I)V"⟩
abbrev cX11_rankOf : ByteArray := prog_13_method_14_code
def yX11_rankOf : MethodName := ⟨RX11, "rankOf", "(J)I"⟩
abbrev cX11_kindOf : ByteArray := prog_13_method_15_code
def yX11_kindOf : MethodName := ⟨RX11, "kindOf", "(J)I"⟩
abbrev cX11_aRank : ByteArray := prog_13_method_16_code
def yX11_aRank : MethodName := ⟨RX11, "aRank", "()I"⟩
abbrev cX11_aKind : ByteArray := prog_13_method_17_code
def yX11_aKind : MethodName := ⟨RX11, "aKind", "()I"⟩
abbrev cX11_readRank : ByteArray := prog_13_method_18_code
def yX11_readRank : MethodName := ⟨RX11, "readRank", "()V"⟩
abbrev cX11_tight : ByteArray := prog_13_method_19_code
def yX11_tight : MethodName := ⟨RX11, "tight", "(II)Z"⟩
abbrev cX11_readTighter : ByteArray := prog_13_method_20_code
def yX11_readTighter : MethodName := ⟨RX11, "readTighter", "()V"⟩
abbrev cX11_readKind : ByteArray := prog_13_method_21_code
def yX11_readKind : MethodName := ⟨RX11, "readKind", "()V"⟩
abbrev cX11_readWord : ByteArray := prog_13_method_22_code
def yX11_readWord : MethodName := ⟨RX11, "readWord", "()V"⟩
abbrev cX11_readElement : ByteArray := prog_13_method_23_code
def yX11_readElement : MethodName := ⟨RX11, "readElement", "(I)V"⟩
abbrev cX11_readSteps : ByteArray := prog_13_method_24_code
def yX11_readSteps : MethodName := ⟨RX11, "readSteps", "(I)V"⟩
abbrev cX11_ends : ByteArray := prog_13_method_25_code
def yX11_ends : MethodName := ⟨RX11, "ends", "(I)I"⟩
abbrev cX11_init : ByteArray := prog_13_method_26_code
def yX11_init : MethodName := ⟨RX11, "<init>", "()V"⟩
abbrev cX11_book : ByteArray := prog_13_method_27_code
def yX11_book : MethodName := ⟨RX11, "book", "()I"⟩
abbrev cX11_fault : ByteArray := prog_13_method_28_code
def yX11_fault : MethodName := ⟨RX11, "fault", "(I)I"⟩
abbrev cX11_about : ByteArray := prog_13_method_29_code
def yX11_about : MethodName := ⟨RX11, "about", "(I)I"⟩
abbrev cX11_isWordNumber : ByteArray := prog_13_method_30_code
def yX11_isWordNumber : MethodName := ⟨RX11, "isWordNumber", "(I)Z"⟩
abbrev cX11_word : ByteArray := prog_13_method_31_code
def yX11_word : MethodName := ⟨RX11, "word", "(II)I"⟩
abbrev cX11_tighter : ByteArray := prog_13_method_32_code
def yX11_tighter : MethodName := ⟨RX11, "tighter", "(II)I"⟩
abbrev cX11_isUnder : ByteArray := prog_13_method_33_code
def yX11_isUnder : MethodName := ⟨RX11, "isUnder", "(II)Z"⟩
abbrev cX11_under : ByteArray := prog_13_method_34_code
def yX11_under : MethodName := ⟨RX11, "under", "(II)I"⟩
abbrev cX11_sentence : ByteArray := prog_13_method_35_code
def yX11_sentence : MethodName := ⟨RX11, "sentence", "()I"⟩
abbrev cX11_sum : ByteArray := prog_13_method_36_code
def yX11_sum : MethodName := ⟨RX11, "sum", "(JJ)J"⟩
abbrev cX11_product : ByteArray := prog_13_method_37_code
def yX11_product : MethodName := ⟨RX11, "product", "(JJ)J"⟩
abbrev cX11_stretch : ByteArray := prog_13_method_38_code
def yX11_stretch : MethodName := ⟨RX11, "stretch", "(II)I"⟩
abbrev cX11_numberKind : ByteArray := prog_13_method_39_code
def yX11_numberKind : MethodName := ⟨RX11, "numberKind", "()I"⟩
abbrev cX11_countAll : ByteArray := prog_13_method_40_code
def yX11_countAll : MethodName := ⟨RX11, "countAll", "()V"⟩
abbrev cX11_isNumber : ByteArray := prog_13_method_41_code
def yX11_isNumber : MethodName := ⟨RX11, "isNumber", "(II)Z"⟩
abbrev cX11_kindWays : ByteArray := prog_13_method_42_code
def yX11_kindWays : MethodName := ⟨RX11, "kindWays", "(III)J"⟩
abbrev cX11_wordWays : ByteArray := prog_13_method_43_code
def yX11_wordWays : MethodName := ⟨RX11, "wordWays", "(III)J"⟩
abbrev cX11_letsRank : ByteArray := prog_13_method_44_code
def yX11_letsRank : MethodName := ⟨RX11, "letsRank", "(III)Z"⟩
abbrev cX11_endOf : ByteArray := prog_13_method_45_code
def yX11_endOf : MethodName := ⟨RX11, "endOf", "(II)I"⟩
abbrev cX11_holeWays : ByteArray := prog_13_method_46_code
def yX11_holeWays : MethodName := ⟨RX11, "holeWays", "(IIII)J"⟩
abbrev cX11_allWays : ByteArray := prog_13_method_47_code
def yX11_allWays : MethodName := ⟨RX11, "allWays", "(II)J"⟩
abbrev cX11_count : ByteArray := prog_13_method_48_code
def yX11_count : MethodName := ⟨RX11, "count", "(II)J"⟩
abbrev cX11_quarrel : ByteArray := prog_13_method_49_code
def yX11_quarrel : MethodName := ⟨RX11, "quarrel", "()I"⟩
abbrev cX11_pile : ByteArray := prog_13_method_50_code
def yX11_pile : MethodName := ⟨RX11, "pile", "(IIIIIJII)V"⟩
abbrev cX11_read : ByteArray := prog_13_method_51_code
def yX11_read : MethodName := ⟨RX11, "read", "(J)I"⟩
abbrev cX11_open : ByteArray := prog_13_method_52_code
def yX11_open : MethodName := ⟨RX11, "open", "(I)V"⟩
abbrev cX11_restWays : ByteArray := prog_13_method_53_code
def yX11_restWays : MethodName := ⟨RX11, "restWays", "(II)V"⟩
abbrev cX11_cut : ByteArray := prog_13_method_54_code
def yX11_cut : MethodName := ⟨RX11, "cut", "(IIIJI)V"⟩
abbrev cX11_node : ByteArray := prog_13_method_55_code
def yX11_node : MethodName := ⟨RX11, "node", "(II)I"⟩
abbrev cX11_bind : ByteArray := prog_13_method_56_code
def yX11_bind : MethodName := ⟨RX11, "bind", "(II)Z"⟩
abbrev cX11_behind : ByteArray := prog_13_method_57_code
def yX11_behind : MethodName := ⟨RX11, "behind", "(I)I"⟩
abbrev cX11_work : ByteArray := prog_13_method_58_code
def yX11_work : MethodName := ⟨RX11, "work", "()I"⟩
abbrev cX11_nextWithin : ByteArray := prog_13_method_59_code
def yX11_nextWithin : MethodName := ⟨RX11, "nextWithin", "(I)I"⟩
abbrev cX11_isThrough : ByteArray := prog_13_method_60_code
def yX11_isThrough : MethodName := ⟨RX11, "isThrough", "(I)Z"⟩
abbrev cX11_value : ByteArray := prog_13_method_61_code
def yX11_value : MethodName := ⟨RX11, "value", "(I)I"⟩
abbrev cX11_steps : ByteArray := prog_13_method_62_code
def yX11_steps : MethodName := ⟨RX11, "steps", "(II)I"⟩
abbrev cX11_worked : ByteArray := prog_13_method_63_code
def yX11_worked : MethodName := ⟨RX11, "worked", "(I)I"⟩
abbrev cX11_sure : ByteArray := prog_13_method_64_code
def yX11_sure : MethodName := ⟨RX11, "sure", "()I"⟩
abbrev cX11_isAgainst : ByteArray := prog_13_method_65_code
def yX11_isAgainst : MethodName := ⟨RX11, "isAgainst", "(II)Z"⟩
abbrev cX11_feed : ByteArray := prog_13_method_66_code
def yX11_feed : MethodName := ⟨RX11, "feed", "(IIIII)I"⟩
abbrev cX11_end : ByteArray := prog_13_method_67_code
def yX11_end : MethodName := ⟨RX11, "end", "(I)I"⟩
def RL : String := "MixfixBenchLaw"
abbrev cL_law : ByteArray := code
def X_cl : List vw_C := [(RX0, TX0, 8), (RX1, TX1, 8), (RX2, TX2, 13), (RX3, TX3, 7), (RX4, TX4, 4), (RX5, TX5, 7), (RX6, TX6, 3), (RX7, TX7, 2), (RX8, TX8, 15), (RX9, TX9, 7), (RX10, TX10, 9), (RX11, TX11, 72)]
def X_Rn : List String := [RX0, RX1, RX2, RX3, RX4, RX5, RX6, RX7, RX8, RX9, RX10, RX11, RL]
def X_R (o : Nat) : String := X_Rn.getD o ""
def X_ty (ci : Nat) : Nat → FieldType := match ci with
  | 0 => tyX0
  | 1 => tyX1
  | 2 => tyX2
  | 3 => tyX3
  | 4 => tyX4
  | 5 => tyX5
  | 6 => tyX6
  | 7 => tyX7
  | 8 => tyX8
  | 9 => tyX9
  | 10 => tyX10
  | _ => tyX11
/-- what a new object of each class holds -/
def X_df : List (List Value) := [[.int 0, .int 0, .int 0, .null, .null, .null, .null, .null],
  [.null, .null, .int 0, .null, .null, .null, .null, .null],
  [.null, .null, .null, .int 0, .null, .null, .null, .null, .null, .null, .null, .null, .null],
  [.null, .int 0, .int 0, .null, .null, .null, .int 0],
  [.null, .null, .int 0, .int 0],
  [.int 0, .null, .null, .null, .null, .null, .null],
  [.int 0, .null, .null],
  [.null, .int 0],
  [.int 0, .int 0, .int 0, .int 0, .int 0, .int 0, .int 0, .int 0, .null, .null, .null, .null, .null, .null, .null],
  [.null, .null, .int 0, .int 0, .null, .null, .int 0],
  [.null, .null, .null, .null, .null, .null, .null, .null, .null],
  [.null, .int 0, .null, .int 0, .int 0, .int 0, .int 0, .int 0, .int 0, .int 0, .int 0, .int 0, .long 0, .null, .null, .null, .null, .null, .null, .null, .null, .null, .null, .null, .null, .null, .null, .null, .int 0, .int 0, .int 0, .int 0, .int 0, .int 0, .null, .null, .null, .null, .int 0, .null, .null, .null, .null, .null, .null, .null, .null, .null, .null, .int 0, .null, .null, .null, .null, .null, .null, .null, .null, .int 0, .null, .null, .null, .null, .null, .null, .null, .null, .null, .int 0, .int 0, .int 0, .null]]
abbrev X_wci : Nat := 8
abbrev X_lawj : Nat := 203
/-- of each method: how many locals, how many parameters, its class, its type -/
def X_I : List (Nat × Nat × Nat × Option FieldType) := [(2, 0, 0, none),
  (1, 0, 0, none),
  (2, 1, 0, (some .boolean)),
  (2, 1, 0, (some .boolean)),
  (2, 1, 0, (some .boolean)),
  (3, 1, 0, (some .int)),
  (3, 1, 0, (some .int)),
  (5, 3, 0, (some .int)),
  (3, 1, 0, none),
  (4, 2, 0, none),
  (5, 2, 0, none),
  (3, 2, 0, (some .boolean)),
  (3, 2, 0, (some .boolean)),
  (1, 0, 0, (some .int)),
  (4, 1, 0, (some .int)),
  (4, 1, 0, (some .int)),
  (6, 0, 0, none),
  (10, 2, 0, (some .int)),
  (6, 2, 0, (some .boolean)),
  (3, 1, 0, (some .boolean)),
  (3, 2, 0, (some .boolean)),
  (3, 2, 1, none),
  (2, 1, 1, none),
  (3, 2, 1, (some .long)),
  (2, 2, 1, (some .int)),
  (3, 3, 1, (some .int)),
  (4, 3, 1, (some .long)),
  (5, 4, 1, (some .long)),
  (4, 3, 1, (some .long)),
  (6, 2, 1, (some .long)),
  (6, 2, 1, (some .long)),
  (3, 0, 1, none),
  (7, 2, 1, none),
  (7, 2, 1, none),
  (7, 2, 1, none),
  (5, 3, 1, none),
  (6, 3, 1, none),
  (12, 4, 1, (some .long)),
  (6, 4, 1, (some .long)),
  (4, 3, 2, none),
  (4, 1, 2, none),
  (5, 4, 2, none),
  (5, 3, 2, none),
  (9, 0, 2, none),
  (8, 1, 2, (some .int)),
  (19, 4, 2, (some .long)),
  (14, 3, 2, none),
  (2, 1, 3, none),
  (1, 0, 3, (some .int)),
  (1, 0, 3, (some .int)),
  (1, 0, 3, (some .long)),
  (3, 1, 3, (some .boolean)),
  (1, 0, 3, none),
  (2, 0, 3, none),
  (2, 1, 3, (some .int)),
  (3, 0, 3, (some .int)),
  (4, 0, 3, (some .int)),
  (5, 0, 3, (some .int)),
  (3, 1, 3, (some .int)),
  (2, 1, 3, (some .boolean)),
  (1, 1, 3, (some .boolean)),
  (1, 1, 3, (some .boolean)),
  (1, 1, 3, (some .boolean)),
  (1, 1, 3, (some .boolean)),
  (3, 2, 4, none),
  (3, 1, 4, (some .boolean)),
  (3, 2, 4, none),
  (1, 0, 4, none),
  (2, 1, 4, (some .boolean)),
  (1, 0, 4, none),
  (4, 0, 4, none),
  (4, 0, 4, none),
  (1, 0, 4, (some .int)),
  (1, 0, 4, (some .int)),
  (2, 1, 4, (some .int)),
  (4, 0, 4, none),
  (2, 1, 4, none),
  (8, 1, 4, (some .boolean)),
  (4, 1, 4, (some .boolean)),
  (9, 2, 4, (some .int)),
  (1, 0, 4, (some .boolean)),
  (1, 1, 4, (some .boolean)),
  (1, 0, 5, none),
  (1, 0, 5, none),
  (7, 5, 5, (some .int)),
  (3, 2, 5, (some .int)),
  (1, 0, 6, none),
  (7, 1, 6, (some .boolean)),
  (2, 1, 6, (some .boolean)),
  (5, 1, 6, (some .int)),
  (3, 2, 6, (some .boolean)),
  (1, 0, 7, none),
  (3, 1, 7, none),
  (2, 1, 7, (some .int)),
  (1, 0, 8, none),
  (2, 1, 8, none),
  (3, 1, 8, none),
  (1, 0, 8, (some .boolean)),
  (2, 1, 8, none),
  (3, 2, 8, none),
  (2, 1, 8, (some .boolean)),
  (1, 0, 8, (some .int)),
  (1, 0, 8, (some .boolean)),
  (4, 1, 8, (some .boolean)),
  (3, 2, 9, none),
  (1, 0, 9, none),
  (7, 1, 9, (some .int)),
  (5, 2, 9, (some .int)),
  (6, 2, 9, (some .boolean)),
  (2, 1, 9, none),
  (4, 1, 9, (some .boolean)),
  (3, 3, 9, (some .int)),
  (1, 0, 10, none),
  (6, 5, 10, (some .int)),
  (2, 1, 10, (some .int)),
  (3, 0, 10, (some .int)),
  (2, 1, 10, (some .int)),
  (2, 1, 10, (some .int)),
  (4, 2, 10, (some .int)),
  (3, 2, 10, (some .int)),
  (3, 2, 10, (some .int)),
  (2, 0, 10, (some .int)),
  (3, 2, 10, (some .long)),
  (5, 0, 10, (some .int)),
  (5, 1, 10, (some .int)),
  (3, 2, 10, (some .int)),
  (4, 2, 10, (some .boolean)),
  (1, 0, 10, (some .int)),
  (2, 1, 10, (some .int)),
  (3, 0, 10, (some .int)),
  (1, 0, 10, none),
  (2, 2, 10, (some .boolean)),
  (1, 1, 10, (some .boolean)),
  (1, 1, 10, (some .boolean)),
  (6, 2, 10, (some .long)),
  (4, 2, 10, (some .long)),
  (2, 1, 11, (some .int)),
  (1, 1, 11, (some .boolean)),
  (1, 1, 11, (some .boolean)),
  (3, 2, 11, none),
  (1, 0, 11, (some .boolean)),
  (3, 0, 11, none),
  (4, 2, 11, none),
  (3, 0, 11, none),
  (1, 1, 11, (some .boolean)),
  (2, 1, 11, (some .boolean)),
  (3, 1, 11, (some .boolean)),
  (1, 0, 11, none),
  (2, 1, 11, none),
  (4, 1, 11, (some .int)),
  (4, 1, 11, (some .int)),
  (2, 0, 11, (some .int)),
  (2, 0, 11, (some .int)),
  (2, 0, 11, none),
  (3, 2, 11, (some .boolean)),
  (6, 0, 11, none),
  (4, 0, 11, none),
  (4, 0, 11, none),
  (4, 1, 11, none),
  (7, 1, 11, none),
  (2, 1, 11, (some .int)),
  (1, 0, 11, none),
  (4, 0, 11, (some .int)),
  (2, 1, 11, (some .int)),
  (2, 1, 11, (some .int)),
  (2, 1, 11, (some .boolean)),
  (4, 2, 11, (some .int)),
  (3, 2, 11, (some .int)),
  (4, 2, 11, (some .boolean)),
  (3, 2, 11, (some .int)),
  (8, 0, 11, (some .int)),
  (4, 2, 11, (some .long)),
  (4, 2, 11, (some .long)),
  (2, 2, 11, (some .int)),
  (1, 0, 11, (some .int)),
  (6, 0, 11, none),
  (3, 2, 11, (some .boolean)),
  (8, 3, 11, (some .long)),
  (11, 3, 11, (some .long)),
  (6, 3, 11, (some .boolean)),
  (4, 2, 11, (some .int)),
  (11, 4, 11, (some .long)),
  (6, 2, 11, (some .long)),
  (5, 2, 11, (some .long)),
  (5, 0, 11, (some .int)),
  (10, 8, 11, none),
  (5, 1, 11, (some .int)),
  (16, 1, 11, none),
  (11, 2, 11, none),
  (21, 5, 11, none),
  (3, 2, 11, (some .int)),
  (3, 2, 11, (some .boolean)),
  (3, 1, 11, (some .int)),
  (5, 0, 11, (some .int)),
  (3, 1, 11, (some .int)),
  (2, 1, 11, (some .boolean)),
  (4, 1, 11, (some .int)),
  (9, 2, 11, (some .int)),
  (2, 1, 11, (some .int)),
  (3, 0, 11, (some .int)),
  (9, 2, 11, (some .boolean)),
  (8, 5, 11, (some .int)),
  (2, 1, 11, (some .int)),
  (4, 1, 12, (some .boolean))]
def X_nL (j : Nat) : Nat := match X_I[j]? with
  | some q => q.1
  | none => 0
def X_na (j : Nat) : Nat := match X_I[j]? with
  | some q => q.2.1
  | none => 0
def X_ci (j : Nat) : Nat := match X_I[j]? with
  | some q => q.2.2.1
  | none => 99
def X_rt (j : Nat) : Option FieldType := match X_I[j]? with
  | some q => q.2.2.2
  | none => none
/-- of each method: its class, its name, its bytes, frames and locals below it, places of its words: code, initialized, instanceMethod or static, selects -/
def X_J : List (Nat × MethodName × ByteArray × Nat × Nat × Nat × Nat × Nat × Nat) := [(0, yX0_init, cX0_init, 2, 40, 125, 85, 124, 0),
  (0, yX0_clear, cX0_clear, 0, 0, 223, 85, 221, 222),
  (0, yX0_hasRank, cX0_hasRank, 0, 0, 808, 85, 806, 807),
  (0, yX0_hasKind, cX0_hasKind, 0, 0, 683, 85, 681, 682),
  (0, yX0_hasWord, cX0_hasWord, 0, 0, 799, 85, 797, 798),
  (0, yX0_rankNamed, cX0_rankNamed, 1, 24, 625, 85, 623, 624),
  (0, yX0_kindNamed, cX0_kindNamed, 1, 24, 670, 85, 668, 669),
  (0, yX0_indexOf, cX0_indexOf, 0, 0, 628, 85, 627, 0),
  (0, yX0_addRank, cX0_addRank, 0, 0, 632, 85, 630, 631),
  (0, yX0_addKind, cX0_addKind, 1, 21, 679, 85, 677, 678),
  (0, yX0_setTighter, cX0_setTighter, 2, 43, 660, 85, 658, 659),
  (0, yX0_isTighter, cX0_isTighter, 1, 21, 653, 85, 651, 652),
  (0, yX0_isUnder, cX0_isUnder, 1, 21, 758, 85, 756, 757),
  (0, yX0_numberKind, cX0_numberKind, 0, 0, 884, 85, 882, 883),
  (0, yX0_kindsUnder, cX0_kindsUnder, 2, 43, 754, 85, 752, 753),
  (0, yX0_wordsOfKinds, cX0_wordsOfKinds, 1, 21, 762, 85, 760, 761),
  (0, yX0_settleHoles, cX0_settleHoles, 4, 90, 749, 85, 747, 748),
  (0, yX0_wordsFitting, cX0_wordsFitting, 3, 61, 766, 85, 765, 20),
  (0, yX0_isAgainst, cX0_isAgainst, 3, 61, 1025, 85, 1023, 1024),
  (0, yX0_hasPartTwice, cX0_hasPartTwice, 1, 21, 1028, 85, 1027, 0),
  (0, yX0_shareAPart, cX0_shareAPart, 1, 23, 1032, 85, 1031, 0),
  (1, yX1_init, cX1_init, 1, 20, 375, 91, 374, 0),
  (1, yX1_startOver, cX1_startOver, 0, 0, 775, 91, 773, 774),
  (1, yX1_readingsOf, cX1_readingsOf, 1, 21, 912, 91, 910, 911),
  (1, yX1_rowOf, cX1_rowOf, 0, 0, 843, 91, 842, 0),
  (1, yX1_tailOf, cX1_tailOf, 0, 0, 855, 91, 854, 0),
  (1, yX1_wordReadings, cX1_wordReadings, 1, 21, 951, 91, 949, 950),
  (1, yX1_holeReadings, cX1_holeReadings, 1, 21, 859, 91, 857, 858),
  (1, yX1_plainReadings, cX1_plainReadings, 2, 50, 945, 91, 943, 944),
  (1, yX1_sumOfKinds, cX1_sumOfKinds, 1, 25, 894, 91, 893, 25),
  (1, yX1_sumOfWords, cX1_sumOfWords, 1, 25, 900, 91, 899, 26),
  (1, yX1_fill, cX1_fill, 5, 128, 836, 91, 834, 835),
  (1, yX1_fillStretch, cX1_fillStretch, 4, 102, 840, 91, 839, 22),
  (1, yX1_fillKinds, cX1_fillKinds, 2, 50, 871, 91, 870, 24),
  (1, yX1_fillHoles, cX1_fillHoles, 2, 50, 904, 91, 903, 27),
  (1, yX1_fillTails, cX1_fillTails, 3, 78, 908, 91, 907, 28),
  (1, yX1_prepareTails, cX1_prepareTails, 3, 78, 959, 91, 957, 958),
  (1, yX1_ways, cX1_ways, 2, 47, 847, 91, 846, 23),
  (1, yX1_tail, cX1_tail, 1, 22, 852, 91, 850, 851),
  (2, yX2_init, cX2_init, 1, 20, 408, 92, 407, 0),
  (2, yX2_find, cX2_find, 5, 131, 924, 92, 922, 923),
  (2, yX2_await, cX2_await, 0, 0, 929, 92, 928, 29),
  (2, yX2_demand, cX2_demand, 0, 0, 933, 92, 932, 30),
  (2, yX2_makeNode, cX2_makeNode, 4, 103, 937, 92, 936, 31),
  (2, yX2_chooseWord, cX2_chooseWord, 3, 73, 941, 92, 940, 32),
  (2, yX2_splitWord, cX2_splitWord, 2, 47, 963, 92, 962, 33),
  (2, yX2_fillWord, cX2_fillWord, 2, 45, 971, 92, 970, 34),
  (3, yX3_init, cX3_init, 1, 20, 274, 88, 273, 0),
  (3, yX3_sort, cX3_sort, 0, 0, 590, 88, 588, 589),
  (3, yX3_place, cX3_place, 0, 0, 612, 88, 610, 611),
  (3, yX3_content, cX3_content, 0, 0, 600, 88, 598, 599),
  (3, yX3_isKeyword, cX3_isKeyword, 1, 20, 595, 88, 593, 594),
  (3, yX3_advance, cX3_advance, 0, 0, 620, 88, 618, 619),
  (3, yX3_start, cX3_start, 4, 83, 532, 88, 530, 531),
  (3, yX3_takeToken, cX3_takeToken, 3, 62, 543, 88, 542, 0),
  (3, yX3_takeName, cX3_takeName, 2, 40, 550, 88, 549, 1),
  (3, yX3_takeNumber, cX3_takeNumber, 1, 21, 570, 88, 569, 2),
  (3, yX3_takePart, cX3_takePart, 1, 21, 576, 88, 575, 3),
  (3, yX3_takeSign, cX3_takeSign, 2, 40, 583, 88, 582, 4),
  (3, yX3_isReserved, cX3_isReserved, 0, 0, 559, 88, 558, 0),
  (3, yX3_isLetter, cX3_isLetter, 0, 0, 546, 88, 545, 0),
  (3, yX3_isLetterOrDigit, cX3_isLetterOrDigit, 1, 20, 553, 88, 552, 0),
  (3, yX3_isPartByte, cX3_isPartByte, 0, 0, 579, 88, 578, 0),
  (3, yX3_isSign, cX3_isSign, 0, 0, 586, 88, 585, 0),
  (4, yX4_init, cX4_init, 2, 41, 268, 87, 267, 0),
  (4, yX4_parse, cX4_parse, 5, 116, 527, 87, 525, 526),
  (4, yX4_blame, cX4_blame, 0, 0, 616, 87, 615, 7),
  (4, yX4_refuse, cX4_refuse, 1, 22, 608, 87, 607, 6),
  (4, yX4_pass, cX4_pass, 2, 42, 636, 87, 635, 8),
  (4, yX4_parseRank, cX4_parseRank, 3, 63, 604, 87, 603, 5),
  (4, yX4_parseTighter, cX4_parseTighter, 3, 67, 641, 87, 640, 9),
  (4, yX4_parseKind, cX4_parseKind, 3, 66, 666, 87, 665, 12),
  (4, yX4_passRank, cX4_passRank, 2, 46, 645, 87, 644, 10),
  (4, yX4_passKind, cX4_passKind, 2, 46, 675, 87, 674, 13),
  (4, yX4_passName, cX4_passName, 1, 22, 649, 87, 648, 11),
  (4, yX4_parseWord, cX4_parseWord, 4, 93, 688, 87, 687, 14),
  (4, yX4_parseLean, cX4_parseLean, 2, 42, 696, 87, 695, 15),
  (4, yX4_parseElements, cX4_parseElements, 3, 66, 702, 87, 701, 16),
  (4, yX4_parseSteps, cX4_parseSteps, 3, 70, 730, 87, 729, 17),
  (4, yX4_parseStep, cX4_parseStep, 2, 42, 734, 87, 733, 18),
  (4, yX4_isNumber, cX4_isNumber, 1, 20, 738, 87, 737, 19),
  (4, yX4_isOperation, cX4_isOperation, 0, 0, 741, 87, 740, 0),
  (5, yX5_init, cX5_init, 1, 20, 337, 90, 336, 0),
  (5, yX5_clear, cX5_clear, 0, 0, 779, 90, 777, 778),
  (5, yX5_add, cX5_add, 0, 0, 955, 90, 953, 954),
  (5, yX5_childOf, cX5_childOf, 0, 0, 998, 90, 996, 997),
  (6, yX6_init, cX6_init, 1, 20, 317, 89, 316, 0),
  (6, yX6_readFrom, cX6_readFrom, 1, 26, 823, 89, 821, 822),
  (6, yX6_isNumber, cX6_isNumber, 1, 24, 875, 89, 873, 874),
  (6, yX6_numberAt, cX6_numberAt, 0, 0, 879, 89, 877, 878),
  (6, yX6_isBracketed, cX6_isBracketed, 0, 0, 888, 89, 886, 887),
  (7, yX7_init, cX7_init, 1, 20, 108, 84, 107, 0),
  (7, yX7_append, cX7_append, 0, 0, 515, 84, 513, 514),
  (7, yX7_byteAt, cX7_byteAt, 0, 0, 536, 84, 534, 535),
  (8, yX8_init, cX8_init, 1, 20, 132, 86, 131, 0),
  (8, yX8_clear, cX8_clear, 0, 0, 692, 86, 690, 691),
  (8, yX8_addPart, cX8_addPart, 0, 0, 714, 86, 712, 713),
  (8, yX8_mayTakeHole, cX8_mayTakeHole, 1, 21, 706, 86, 704, 705),
  (8, yX8_addHole, cX8_addHole, 0, 0, 718, 86, 716, 717),
  (8, yX8_addStep, cX8_addStep, 0, 0, 745, 86, 743, 744),
  (8, yX8_isHole, cX8_isHole, 0, 0, 710, 86, 708, 709),
  (8, yX8_ends, cX8_ends, 1, 21, 726, 86, 724, 725),
  (8, yX8_isClosed, cX8_isClosed, 2, 41, 722, 86, 720, 721),
  (8, yX8_hasPart, cX8_hasPart, 0, 0, 1036, 86, 1034, 1035),
  (9, yX9_init, cX9_init, 1, 20, 454, 93, 453, 0),
  (9, yX9_forget, cX9_forget, 0, 0, 783, 93, 781, 782),
  (9, yX9_run, cX9_run, 4, 94, 988, 93, 986, 987),
  (9, yX9_workNode, cX9_workNode, 3, 70, 993, 93, 992, 35),
  (9, yX9_runSteps, cX9_runSteps, 2, 45, 1002, 93, 1001, 36),
  (9, yX9_push, cX9_push, 0, 0, 1006, 93, 1005, 37),
  (9, yX9_operate, cX9_operate, 1, 22, 1010, 93, 1009, 38),
  (9, yX9_outcome, cX9_outcome, 0, 0, 1013, 93, 1012, 0),
  (10, yX10_init, cX10_init, 3, 63, 100, 83, 99, 0),
  (10, yX10_feed, cX10_feed, 1, 22, 511, 83, 509, 510),
  (10, yX10_end, cX10_end, 0, 0, 519, 83, 517, 518),
  (10, yX10_book, cX10_book, 6, 138, 523, 83, 521, 522),
  (10, yX10_fault, cX10_fault, 0, 0, 787, 83, 785, 786),
  (10, yX10_about, cX10_about, 0, 0, 791, 83, 789, 790),
  (10, yX10_word, cX10_word, 2, 41, 795, 83, 793, 794),
  (10, yX10_tighter, cX10_tighter, 2, 43, 804, 83, 802, 803),
  (10, yX10_under, cX10_under, 2, 43, 813, 83, 811, 812),
  (10, yX10_sentence, cX10_sentence, 2, 52, 819, 83, 817, 818),
  (10, yX10_count, cX10_count, 6, 150, 832, 83, 830, 831),
  (10, yX10_quarrel, cX10_quarrel, 6, 150, 916, 83, 914, 915),
  (10, yX10_read, cX10_read, 6, 154, 920, 83, 918, 919),
  (10, yX10_node, cX10_node, 0, 0, 976, 83, 974, 975),
  (10, yX10_bind, cX10_bind, 1, 21, 980, 83, 978, 979),
  (10, yX10_work, cX10_work, 5, 120, 984, 83, 982, 983),
  (10, yX10_worked, cX10_worked, 0, 0, 1017, 83, 1015, 1016),
  (10, yX10_sure, cX10_sure, 4, 86, 1021, 83, 1019, 1020),
  (10, yX10_dropReading, cX10_dropReading, 1, 21, 771, 83, 770, 21),
  (10, yX10_hasBit, cX10_hasBit, 0, 0, 656, 83, 655, 0),
  (10, yX10_isDigit, cX10_isDigit, 0, 0, 556, 83, 555, 0),
  (10, yX10_isBlank, cX10_isBlank, 0, 0, 539, 83, 538, 0),
  (10, yX10_plus, cX10_plus, 0, 0, 867, 83, 866, 0),
  (10, yX10_times, cX10_times, 0, 0, 862, 83, 861, 0),
  (11, yX11_sign, cX11_sign, 0, 0, 1274, 94, 1273, 40),
  (11, yX11_isLetter, cX11_isLetter, 0, 0, 1277, 94, 1276, 0),
  (11, yX11_isDigit, cX11_isDigit, 0, 0, 1280, 94, 1279, 0),
  (11, yX11_fails, cX11_fails, 0, 0, 1310, 94, 1309, 45),
  (11, yX11_isGood, cX11_isGood, 0, 0, 1302, 94, 1301, 43),
  (11, yX11_next, cX11_next, 3, 66, 1270, 94, 1269, 39),
  (11, yX11_pack, cX11_pack, 1, 21, 1284, 94, 1283, 41),
  (11, yX11_nextPart, cX11_nextPart, 2, 44, 1295, 94, 1294, 42),
  (11, yX11_isPartSign, cX11_isPartSign, 0, 0, 1298, 94, 1297, 0),
  (11, yX11_is, cX11_is, 1, 21, 1326, 94, 1325, 49),
  (11, yX11_isWord, cX11_isWord, 0, 0, 1350, 94, 1349, 55),
  (11, yX11_wrong, cX11_wrong, 1, 22, 1306, 94, 1305, 44),
  (11, yX11_must, cX11_must, 4, 88, 1322, 94, 1321, 48),
  (11, yX11_rankOf, cX11_rankOf, 0, 0, 1318, 94, 1317, 47),
  (11, yX11_kindOf, cX11_kindOf, 0, 0, 1346, 94, 1345, 54),
  (11, yX11_aRank, cX11_aRank, 4, 88, 1334, 94, 1333, 51),
  (11, yX11_aKind, cX11_aKind, 4, 88, 1354, 94, 1353, 56),
  (11, yX11_readRank, cX11_readRank, 5, 109, 1314, 94, 1313, 46),
  (11, yX11_tight, cX11_tight, 0, 0, 1338, 94, 1337, 52),
  (11, yX11_readTighter, cX11_readTighter, 5, 109, 1330, 94, 1329, 50),
  (11, yX11_readKind, cX11_readKind, 5, 109, 1342, 94, 1341, 53),
  (11, yX11_readWord, cX11_readWord, 6, 132, 1358, 94, 1357, 57),
  (11, yX11_readElement, cX11_readElement, 5, 109, 1362, 94, 1361, 58),
  (11, yX11_readSteps, cX11_readSteps, 4, 88, 1370, 94, 1369, 60),
  (11, yX11_ends, cX11_ends, 0, 0, 1366, 94, 1365, 59),
  (11, yX11_init, cX11_init, 1, 20, 1041, 94, 1040, 0),
  (11, yX11_book, cX11_book, 7, 155, 1266, 94, 1264, 1265),
  (11, yX11_fault, cX11_fault, 0, 0, 1374, 94, 1372, 1373),
  (11, yX11_about, cX11_about, 0, 0, 1378, 94, 1376, 1377),
  (11, yX11_isWordNumber, cX11_isWordNumber, 0, 0, 1386, 94, 1385, 61),
  (11, yX11_word, cX11_word, 1, 21, 1382, 94, 1380, 1381),
  (11, yX11_tighter, cX11_tighter, 1, 22, 1390, 94, 1388, 1389),
  (11, yX11_isUnder, cX11_isUnder, 0, 0, 1398, 94, 1397, 62),
  (11, yX11_under, cX11_under, 1, 23, 1394, 94, 1392, 1393),
  (11, yX11_sentence, cX11_sentence, 4, 102, 1402, 94, 1400, 1401),
  (11, yX11_sum, cX11_sum, 0, 0, 1416, 94, 1415, 0),
  (11, yX11_product, cX11_product, 0, 0, 1420, 94, 1419, 0),
  (11, yX11_stretch, cX11_stretch, 0, 0, 1409, 94, 1408, 0),
  (11, yX11_numberKind, cX11_numberKind, 0, 0, 1435, 94, 1434, 67),
  (11, yX11_countAll, cX11_countAll, 3, 77, 1406, 94, 1405, 63),
  (11, yX11_isNumber, cX11_isNumber, 0, 0, 1431, 94, 1430, 66),
  (11, yX11_kindWays, cX11_kindWays, 1, 23, 1427, 94, 1426, 65),
  (11, yX11_wordWays, cX11_wordWays, 1, 23, 1413, 94, 1412, 64),
  (11, yX11_letsRank, cX11_letsRank, 1, 22, 1447, 94, 1446, 70),
  (11, yX11_endOf, cX11_endOf, 0, 0, 1443, 94, 1442, 69),
  (11, yX11_holeWays, cX11_holeWays, 2, 47, 1439, 94, 1438, 68),
  (11, yX11_allWays, cX11_allWays, 2, 50, 1455, 94, 1454, 71),
  (11, yX11_count, cX11_count, 3, 75, 1451, 94, 1449, 1450),
  (11, yX11_quarrel, cX11_quarrel, 3, 75, 1460, 94, 1458, 1459),
  (11, yX11_pile, cX11_pile, 0, 0, 1468, 94, 1467, 72),
  (11, yX11_read, cX11_read, 4, 128, 1464, 94, 1462, 1463),
  (11, yX11_open, cX11_open, 3, 93, 1472, 94, 1471, 73),
  (11, yX11_restWays, cX11_restWays, 1, 23, 1480, 94, 1479, 75),
  (11, yX11_cut, cX11_cut, 2, 53, 1476, 94, 1475, 74),
  (11, yX11_node, cX11_node, 0, 0, 1484, 94, 1482, 1483),
  (11, yX11_bind, cX11_bind, 1, 21, 1488, 94, 1486, 1487),
  (11, yX11_behind, cX11_behind, 0, 0, 1496, 94, 1495, 76),
  (11, yX11_work, cX11_work, 2, 51, 1492, 94, 1490, 1491),
  (11, yX11_nextWithin, cX11_nextWithin, 0, 0, 1504, 94, 1503, 78),
  (11, yX11_isThrough, cX11_isThrough, 1, 22, 1500, 94, 1499, 77),
  (11, yX11_value, cX11_value, 1, 28, 1508, 94, 1507, 79),
  (11, yX11_steps, cX11_steps, 0, 0, 1512, 94, 1511, 80),
  (11, yX11_worked, cX11_worked, 0, 0, 1516, 94, 1514, 1515),
  (11, yX11_sure, cX11_sure, 2, 50, 1520, 94, 1518, 1519),
  (11, yX11_isAgainst, cX11_isAgainst, 1, 22, 1524, 94, 1523, 81),
  (11, yX11_feed, cX11_feed, 0, 0, 1528, 94, 1526, 1527),
  (11, yX11_end, cX11_end, 0, 0, 1532, 94, 1530, 1531),
  (12, x, code, 10, 360, 0, 0, 0, 0)]
/-- of each class: the places of instantiable and initialized -/
def X_K2 : List (Nat × Nat) := [(122, 85), (372, 91), (405, 92), (271, 88), (265, 87), (334, 90), (314, 89), (105, 84), (129, 86), (451, 93), (97, 83), (1038, 94)]
/-- the words of the nest -/
def X_nest : List Cond := [(Jvm.Cond.methodLinkNest "MixfixBench" (11 : Nat) ({ cls := "MixfixBench$Tape", name := "<init>", desc := "()V" } : Jvm.MethodName) "MixfixBench"),
  (Jvm.Cond.fieldLinkNest "MixfixBench" (76 : Nat) "MixfixBench$Tape" "length" "I" "MixfixBench"),
  (Jvm.Cond.fieldLinkNest "MixfixBench$Sentence" (22 : Nat) "MixfixBench$Tape" "length" "I" "MixfixBench"),
  (Jvm.Cond.fieldLinkNest "MixfixBench$Lexer" (44 : Nat) "MixfixBench$Tape" "length" "I" "MixfixBench"),
  (Jvm.Cond.methodLinkNest "MixfixBench$Book" (31 : Nat) ({ cls := "MixfixBench$Word", name := "<init>", desc := "()V" } : Jvm.MethodName) "MixfixBench"),
  (Jvm.Cond.fieldLinkNest "MixfixBench" (118 : Nat) "MixfixBench$Word" "rank" "I" "MixfixBench"),
  (Jvm.Cond.fieldLinkNest "MixfixBench$Book" (104 : Nat) "MixfixBench$Word" "rank" "I" "MixfixBench"),
  (Jvm.Cond.fieldLinkNest "MixfixBench" (123 : Nat) "MixfixBench$Word" "lean" "I" "MixfixBench"),
  (Jvm.Cond.fieldLinkNest "MixfixBench$Parser" (154 : Nat) "MixfixBench$Word" "lean" "I" "MixfixBench"),
  (Jvm.Cond.fieldLinkNest "MixfixBench$Book" (97 : Nat) "MixfixBench$Word" "lean" "I" "MixfixBench"),
  (Jvm.Cond.fieldLinkNest "MixfixBench" (126 : Nat) "MixfixBench$Word" "kind" "I" "MixfixBench"),
  (Jvm.Cond.fieldLinkNest "MixfixBench$Parser" (147 : Nat) "MixfixBench$Word" "kind" "I" "MixfixBench"),
  (Jvm.Cond.fieldLinkNest "MixfixBench$Book" (65 : Nat) "MixfixBench$Word" "kind" "I" "MixfixBench"),
  (Jvm.Cond.fieldLinkNest "MixfixBench$Finder" (126 : Nat) "MixfixBench$Word" "size" "I" "MixfixBench"),
  (Jvm.Cond.fieldLinkNest "MixfixBench" (129 : Nat) "MixfixBench$Word" "size" "I" "MixfixBench"),
  (Jvm.Cond.fieldLinkNest "MixfixBench$Parser" (164 : Nat) "MixfixBench$Word" "size" "I" "MixfixBench"),
  (Jvm.Cond.fieldLinkNest "MixfixBench$Chart" (126 : Nat) "MixfixBench$Word" "size" "I" "MixfixBench"),
  (Jvm.Cond.fieldLinkNest "MixfixBench$Book" (68 : Nat) "MixfixBench$Word" "size" "I" "MixfixBench"),
  (Jvm.Cond.fieldLinkNest "MixfixBench" (132 : Nat) "MixfixBench$Word" "holes" "I" "MixfixBench"),
  (Jvm.Cond.fieldLinkNest "MixfixBench$Finder" (149 : Nat) "MixfixBench$Word" "holes" "I" "MixfixBench"),
  (Jvm.Cond.fieldLinkNest "MixfixBench$Parser" (161 : Nat) "MixfixBench$Word" "holes" "I" "MixfixBench"),
  (Jvm.Cond.fieldLinkNest "MixfixBench$Chart" (114 : Nat) "MixfixBench$Word" "holes" "I" "MixfixBench"),
  (Jvm.Cond.fieldLinkNest "MixfixBench$Worker" (73 : Nat) "MixfixBench$Word" "steps" "I" "MixfixBench"),
  (Jvm.Cond.fieldLinkNest "MixfixBench" (139 : Nat) "MixfixBench$Word" "steps" "I" "MixfixBench"),
  (Jvm.Cond.fieldLinkNest "MixfixBench$Parser" (183 : Nat) "MixfixBench$Word" "steps" "I" "MixfixBench"),
  (Jvm.Cond.fieldLinkNest "MixfixBench$Worker" (85 : Nat) "MixfixBench$Word" "bound" "Z" "MixfixBench"),
  (Jvm.Cond.fieldLinkNest "MixfixBench" (190 : Nat) "MixfixBench$Word" "bound" "Z" "MixfixBench"),
  (Jvm.Cond.fieldLinkNest "MixfixBench$Worker" (82 : Nat) "MixfixBench$Word" "value" "I" "MixfixBench"),
  (Jvm.Cond.fieldLinkNest "MixfixBench" (194 : Nat) "MixfixBench$Word" "value" "I" "MixfixBench"),
  (Jvm.Cond.fieldLinkNest "MixfixBench$Chart" (132 : Nat) "MixfixBench$Word" "parts" "[J" "MixfixBench"),
  (Jvm.Cond.fieldLinkNest "MixfixBench$Book" (119 : Nat) "MixfixBench$Word" "parts" "[J" "MixfixBench"),
  (Jvm.Cond.fieldLinkNest "MixfixBench$Finder" (135 : Nat) "MixfixBench$Word" "holeAt" "[I" "MixfixBench"),
  (Jvm.Cond.fieldLinkNest "MixfixBench$Book" (74 : Nat) "MixfixBench$Word" "holeAt" "[I" "MixfixBench"),
  (Jvm.Cond.fieldLinkNest "MixfixBench$Chart" (141 : Nat) "MixfixBench$Word" "holeAt" "[I" "MixfixBench"),
  (Jvm.Cond.fieldLinkNest "MixfixBench$Book" (77 : Nat) "MixfixBench$Word" "holeKinds" "[I" "MixfixBench"),
  (Jvm.Cond.fieldLinkNest "MixfixBench$Finder" (151 : Nat) "MixfixBench$Word" "takenWords" "[I" "MixfixBench"),
  (Jvm.Cond.fieldLinkNest "MixfixBench$Chart" (123 : Nat) "MixfixBench$Word" "takenWords" "[I" "MixfixBench"),
  (Jvm.Cond.fieldLinkNest "MixfixBench$Book" (87 : Nat) "MixfixBench$Word" "takenWords" "[I" "MixfixBench"),
  (Jvm.Cond.fieldLinkNest "MixfixBench$Finder" (154 : Nat) "MixfixBench$Word" "takenKinds" "[I" "MixfixBench"),
  (Jvm.Cond.fieldLinkNest "MixfixBench$Chart" (119 : Nat) "MixfixBench$Word" "takenKinds" "[I" "MixfixBench"),
  (Jvm.Cond.fieldLinkNest "MixfixBench$Book" (84 : Nat) "MixfixBench$Word" "takenKinds" "[I" "MixfixBench"),
  (Jvm.Cond.fieldLinkNest "MixfixBench$Worker" (89 : Nat) "MixfixBench$Word" "stepSigns" "[I" "MixfixBench"),
  (Jvm.Cond.fieldLinkNest "MixfixBench$Worker" (92 : Nat) "MixfixBench$Word" "stepValues" "[I" "MixfixBench"),
  (Jvm.Cond.fieldLinkNest "MixfixBench$Parser" (83 : Nat) "MixfixBench$Book" "rankCount" "I" "MixfixBench"),
  (Jvm.Cond.fieldLinkNest "MixfixBench" (103 : Nat) "MixfixBench$Book" "rankCount" "I" "MixfixBench"),
  (Jvm.Cond.fieldLinkNest "MixfixBench" (106 : Nat) "MixfixBench$Book" "kindCount" "I" "MixfixBench"),
  (Jvm.Cond.fieldLinkNest "MixfixBench$Parser" (112 : Nat) "MixfixBench$Book" "kindCount" "I" "MixfixBench"),
  (Jvm.Cond.fieldLinkNest "MixfixBench$Chart" (48 : Nat) "MixfixBench$Book" "kindCount" "I" "MixfixBench"),
  (Jvm.Cond.fieldLinkNest "MixfixBench" (94 : Nat) "MixfixBench$Book" "wordCount" "I" "MixfixBench"),
  (Jvm.Cond.fieldLinkNest "MixfixBench$Finder" (111 : Nat) "MixfixBench$Book" "wordCount" "I" "MixfixBench"),
  (Jvm.Cond.fieldLinkNest "MixfixBench$Chart" (62 : Nat) "MixfixBench$Book" "wordCount" "I" "MixfixBench"),
  (Jvm.Cond.fieldLinkNest "MixfixBench$Parser" (131 : Nat) "MixfixBench$Book" "wordCount" "I" "MixfixBench"),
  (Jvm.Cond.fieldLinkNest "MixfixBench$Worker" (67 : Nat) "MixfixBench$Book" "words" "[LMixfixBench$Word;" "MixfixBench"),
  (Jvm.Cond.fieldLinkNest "MixfixBench$Finder" (123 : Nat) "MixfixBench$Book" "words" "[LMixfixBench$Word;" "MixfixBench"),
  (Jvm.Cond.fieldLinkNest "MixfixBench" (114 : Nat) "MixfixBench$Book" "words" "[LMixfixBench$Word;" "MixfixBench"),
  (Jvm.Cond.fieldLinkNest "MixfixBench$Parser" (134 : Nat) "MixfixBench$Book" "words" "[LMixfixBench$Word;" "MixfixBench"),
  (Jvm.Cond.fieldLinkNest "MixfixBench$Chart" (110 : Nat) "MixfixBench$Book" "words" "[LMixfixBench$Word;" "MixfixBench"),
  (Jvm.Cond.fieldLinkNest "MixfixBench" (97 : Nat) "MixfixBench$Parser" "fault" "I" "MixfixBench"),
  (Jvm.Cond.fieldLinkNest "MixfixBench" (100 : Nat) "MixfixBench$Parser" "faultPlace" "I" "MixfixBench"),
  (Jvm.Cond.methodLinkNest "MixfixBench" (37 : Nat) ({ cls := "MixfixBench$Sentence", name := "<init>", desc := "()V" } : Jvm.MethodName) "MixfixBench"),
  (Jvm.Cond.fieldLinkNest "MixfixBench$Finder" (61 : Nat) "MixfixBench$Sentence" "count" "I" "MixfixBench"),
  (Jvm.Cond.fieldLinkNest "MixfixBench" (88 : Nat) "MixfixBench$Sentence" "count" "I" "MixfixBench"),
  (Jvm.Cond.fieldLinkNest "MixfixBench$Chart" (65 : Nat) "MixfixBench$Sentence" "count" "I" "MixfixBench"),
  (Jvm.Cond.fieldLinkNest "MixfixBench$Chart" (135 : Nat) "MixfixBench$Sentence" "texts" "[J" "MixfixBench"),
  (Jvm.Cond.methodLinkNest "MixfixBench" (44 : Nat) ({ cls := "MixfixBench$Reading", name := "<init>", desc := "()V" } : Jvm.MethodName) "MixfixBench"),
  (Jvm.Cond.fieldLinkNest "MixfixBench$Worker" (39 : Nat) "MixfixBench$Reading" "count" "I" "MixfixBench"),
  (Jvm.Cond.fieldLinkNest "MixfixBench" (109 : Nat) "MixfixBench$Reading" "count" "I" "MixfixBench"),
  (Jvm.Cond.fieldLinkNest "MixfixBench$Worker" (51 : Nat) "MixfixBench$Reading" "word" "[I" "MixfixBench"),
  (Jvm.Cond.fieldLinkNest "MixfixBench" (175 : Nat) "MixfixBench$Reading" "word" "[I" "MixfixBench"),
  (Jvm.Cond.fieldLinkNest "MixfixBench$Worker" (54 : Nat) "MixfixBench$Reading" "first" "[I" "MixfixBench"),
  (Jvm.Cond.fieldLinkNest "MixfixBench" (179 : Nat) "MixfixBench$Reading" "first" "[I" "MixfixBench"),
  (Jvm.Cond.fieldLinkNest "MixfixBench" (182 : Nat) "MixfixBench$Reading" "length" "[I" "MixfixBench"),
  (Jvm.Cond.fieldLinkNest "MixfixBench$Worker" (44 : Nat) "MixfixBench$Reading" "parent" "[I" "MixfixBench"),
  (Jvm.Cond.fieldLinkNest "MixfixBench" (184 : Nat) "MixfixBench$Reading" "parent" "[I" "MixfixBench"),
  (Jvm.Cond.fieldLinkNest "MixfixBench" (187 : Nat) "MixfixBench$Reading" "hole" "[I" "MixfixBench"),
  (Jvm.Cond.fieldLinkNest "MixfixBench$Finder" (98 : Nat) "MixfixBench$Chart" "book" "LMixfixBench$Book;" "MixfixBench"),
  (Jvm.Cond.fieldLinkNest "MixfixBench" (201 : Nat) "MixfixBench$Worker" "result" "I" "MixfixBench"),
  (Jvm.Cond.fieldLinkNest "MixfixBench" (204 : Nat) "MixfixBench$Worker" "endedAt" "I" "MixfixBench"),
  (Jvm.Cond.methodLinkNest "MixfixBench$Lexer" (53 : Nat) ({ cls := "MixfixBench", name := "isBlank", desc := "(I)Z" } : Jvm.MethodName) "MixfixBench"),
  (Jvm.Cond.methodLinkNest "MixfixBench$Lexer" (66 : Nat) ({ cls := "MixfixBench", name := "isDigit", desc := "(I)Z" } : Jvm.MethodName) "MixfixBench"),
  (Jvm.Cond.methodLinkNest "MixfixBench$Book" (59 : Nat) ({ cls := "MixfixBench", name := "hasBit", desc := "(II)Z" } : Jvm.MethodName) "MixfixBench"),
  (Jvm.Cond.methodLinkNest "MixfixBench$Sentence" (31 : Nat) ({ cls := "MixfixBench", name := "isBlank", desc := "(I)Z" } : Jvm.MethodName) "MixfixBench"),
  (Jvm.Cond.methodLinkNest "MixfixBench$Chart" (147 : Nat) ({ cls := "MixfixBench", name := "times", desc := "(JJ)J" } : Jvm.MethodName) "MixfixBench"),
  (Jvm.Cond.methodLinkNest "MixfixBench$Chart" (58 : Nat) ({ cls := "MixfixBench", name := "plus", desc := "(JJ)J" } : Jvm.MethodName) "MixfixBench"),
  (Jvm.Cond.methodLinkNest "MixfixBench$Chart" (54 : Nat) ({ cls := "MixfixBench", name := "hasBit", desc := "(II)Z" } : Jvm.MethodName) "MixfixBench"),
  (Jvm.Cond.methodLinkNest "MixfixBench$Finder" (116 : Nat) ({ cls := "MixfixBench", name := "hasBit", desc := "(II)Z" } : Jvm.MethodName) "MixfixBench"),
  (Jvm.Cond.methodLinkNest "MixfixBench$Finder" (142 : Nat) ({ cls := "MixfixBench", name := "times", desc := "(JJ)J" } : Jvm.MethodName) "MixfixBench")]
abbrev X_lp0 : List Nat := [247, 249, 251, 253, 255, 257, 259, 261]
abbrev X_lp1 : List Nat := [387, 389, 391, 393, 395, 397, 399, 401]
abbrev X_lp2 : List Nat := [423, 425, 427, 429, 431, 433, 435, 437, 439, 441, 443, 445, 447]
abbrev X_lp3 : List Nat := [283, 285, 287, 289, 291, 293, 295]
abbrev X_lp4 : List Nat := [304, 306, 308, 310]
abbrev X_lp5 : List Nat := [356, 358, 360, 362, 364, 366, 368]
abbrev X_lp6 : List Nat := [326, 328, 330]
abbrev X_lp7 : List Nat := [115, 117]
abbrev X_lp8 : List Nat := [187, 189, 191, 193, 195, 197, 199, 201, 203, 205, 207, 209, 211, 213, 215]
abbrev X_lp9 : List Nat := [465, 467, 469, 471, 473, 475, 477]
abbrev X_lp10 : List Nat := [489, 491, 493, 495, 497, 499, 501, 503, 505]
abbrev X_lp11 : List Nat := [1117, 1119, 1121, 1123, 1125, 1127, 1129, 1131, 1133, 1135, 1137, 1139, 1141, 1143, 1145, 1147, 1149, 1151, 1153, 1155, 1157, 1159, 1161, 1163, 1165, 1167, 1169, 1171, 1173, 1175, 1177, 1179, 1181, 1183, 1185, 1187, 1189, 1191, 1193, 1195, 1197, 1199, 1201, 1203, 1205, 1207, 1209, 1211, 1213, 1215, 1217, 1219, 1221, 1223, 1225, 1227, 1229, 1231, 1233, 1235, 1237, 1239, 1241, 1243, 1245, 1247, 1249, 1251, 1253, 1255, 1257, 1259]
abbrev X_oi : Nat := 102
abbrev X_oc : Nat := 103
abbrev X_an : Nat := 828
abbrev X_as : Nat := 827
abbrev X_ai : Nat := 95
abbrev X_ao : Nat := 128
abbrev X_ap : List Nat := [219, 218, 120, 1262]
