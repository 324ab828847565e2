-- ===== PART A: goes FIRST, ahead of the names: the tables' words, and 'selects' of the private methods out of them =====
/-- a private method of a class that the tables say can be made, by its rows of tables_1 -/
def lw_okq (q : MethodName × Nat) : Prop := (q.1.cls ≠ "java/lang/invoke/MethodHandle" ∧ q.1.cls ≠ "java/lang/invoke/VarHandle") ∧ Cond.instantiable q.1.cls q.2 ∈ tables_1 ∧ Cond.privateMethod q.1 ∈ tables_1 ∧ Cond.instanceMethod q.1 ∈ tables_1
theorem lw_p0 : lw_okq (⟨"MixfixBench$Lexer", "takeToken", "(I)I"⟩, 7) := ⟨⟨by decide +kernel, by decide +kernel⟩, List.mem_of_getElem? (i := 189) (by decide +kernel), List.mem_of_getElem? (i := 459) (by decide +kernel), List.mem_of_getElem? (i := 460) (by decide +kernel)⟩
theorem lw_p1 : lw_okq (⟨"MixfixBench$Lexer", "takeName", "()I"⟩, 7) := ⟨⟨by decide +kernel, by decide +kernel⟩, List.mem_of_getElem? (i := 189) (by decide +kernel), List.mem_of_getElem? (i := 466) (by decide +kernel), List.mem_of_getElem? (i := 467) (by decide +kernel)⟩
theorem lw_p2 : lw_okq (⟨"MixfixBench$Lexer", "takeNumber", "()I"⟩, 7) := ⟨⟨by decide +kernel, by decide +kernel⟩, List.mem_of_getElem? (i := 189) (by decide +kernel), List.mem_of_getElem? (i := 486) (by decide +kernel), List.mem_of_getElem? (i := 487) (by decide +kernel)⟩
theorem lw_p3 : lw_okq (⟨"MixfixBench$Lexer", "takePart", "()I"⟩, 7) := ⟨⟨by decide +kernel, by decide +kernel⟩, List.mem_of_getElem? (i := 189) (by decide +kernel), List.mem_of_getElem? (i := 492) (by decide +kernel), List.mem_of_getElem? (i := 493) (by decide +kernel)⟩
theorem lw_p4 : lw_okq (⟨"MixfixBench$Lexer", "takeSign", "(I)I"⟩, 7) := ⟨⟨by decide +kernel, by decide +kernel⟩, List.mem_of_getElem? (i := 189) (by decide +kernel), List.mem_of_getElem? (i := 499) (by decide +kernel), List.mem_of_getElem? (i := 500) (by decide +kernel)⟩
theorem lw_p5 : lw_okq (⟨"MixfixBench$Parser", "parseRank", "()V"⟩, 4) := ⟨⟨by decide +kernel, by decide +kernel⟩, List.mem_of_getElem? (i := 183) (by decide +kernel), List.mem_of_getElem? (i := 520) (by decide +kernel), List.mem_of_getElem? (i := 521) (by decide +kernel)⟩
theorem lw_p6 : lw_okq (⟨"MixfixBench$Parser", "refuse", "()V"⟩, 4) := ⟨⟨by decide +kernel, by decide +kernel⟩, List.mem_of_getElem? (i := 183) (by decide +kernel), List.mem_of_getElem? (i := 524) (by decide +kernel), List.mem_of_getElem? (i := 525) (by decide +kernel)⟩
theorem lw_p7 : lw_okq (⟨"MixfixBench$Parser", "blame", "(II)V"⟩, 4) := ⟨⟨by decide +kernel, by decide +kernel⟩, List.mem_of_getElem? (i := 183) (by decide +kernel), List.mem_of_getElem? (i := 532) (by decide +kernel), List.mem_of_getElem? (i := 533) (by decide +kernel)⟩
theorem lw_p8 : lw_okq (⟨"MixfixBench$Parser", "pass", "(I)Z"⟩, 4) := ⟨⟨by decide +kernel, by decide +kernel⟩, List.mem_of_getElem? (i := 183) (by decide +kernel), List.mem_of_getElem? (i := 552) (by decide +kernel), List.mem_of_getElem? (i := 553) (by decide +kernel)⟩
theorem lw_p9 : lw_okq (⟨"MixfixBench$Parser", "parseTighter", "()V"⟩, 4) := ⟨⟨by decide +kernel, by decide +kernel⟩, List.mem_of_getElem? (i := 183) (by decide +kernel), List.mem_of_getElem? (i := 557) (by decide +kernel), List.mem_of_getElem? (i := 558) (by decide +kernel)⟩
theorem lw_p10 : lw_okq (⟨"MixfixBench$Parser", "passRank", "()I"⟩, 4) := ⟨⟨by decide +kernel, by decide +kernel⟩, List.mem_of_getElem? (i := 183) (by decide +kernel), List.mem_of_getElem? (i := 561) (by decide +kernel), List.mem_of_getElem? (i := 562) (by decide +kernel)⟩
theorem lw_p11 : lw_okq (⟨"MixfixBench$Parser", "passName", "(I)I"⟩, 4) := ⟨⟨by decide +kernel, by decide +kernel⟩, List.mem_of_getElem? (i := 183) (by decide +kernel), List.mem_of_getElem? (i := 565) (by decide +kernel), List.mem_of_getElem? (i := 566) (by decide +kernel)⟩
theorem lw_p12 : lw_okq (⟨"MixfixBench$Parser", "parseKind", "()V"⟩, 4) := ⟨⟨by decide +kernel, by decide +kernel⟩, List.mem_of_getElem? (i := 183) (by decide +kernel), List.mem_of_getElem? (i := 582) (by decide +kernel), List.mem_of_getElem? (i := 583) (by decide +kernel)⟩
theorem lw_p13 : lw_okq (⟨"MixfixBench$Parser", "passKind", "()I"⟩, 4) := ⟨⟨by decide +kernel, by decide +kernel⟩, List.mem_of_getElem? (i := 183) (by decide +kernel), List.mem_of_getElem? (i := 591) (by decide +kernel), List.mem_of_getElem? (i := 592) (by decide +kernel)⟩
theorem lw_p14 : lw_okq (⟨"MixfixBench$Parser", "parseWord", "()V"⟩, 4) := ⟨⟨by decide +kernel, by decide +kernel⟩, List.mem_of_getElem? (i := 183) (by decide +kernel), List.mem_of_getElem? (i := 604) (by decide +kernel), List.mem_of_getElem? (i := 605) (by decide +kernel)⟩
theorem lw_p15 : lw_okq (⟨"MixfixBench$Parser", "parseLean", "(LMixfixBench$Word;)V"⟩, 4) := ⟨⟨by decide +kernel, by decide +kernel⟩, List.mem_of_getElem? (i := 183) (by decide +kernel), List.mem_of_getElem? (i := 612) (by decide +kernel), List.mem_of_getElem? (i := 613) (by decide +kernel)⟩
def lw_privs_1 : List (MethodName × Nat) := [(⟨"MixfixBench$Lexer", "takeToken", "(I)I"⟩, 7), (⟨"MixfixBench$Lexer", "takeName", "()I"⟩, 7), (⟨"MixfixBench$Lexer", "takeNumber", "()I"⟩, 7), (⟨"MixfixBench$Lexer", "takePart", "()I"⟩, 7), (⟨"MixfixBench$Lexer", "takeSign", "(I)I"⟩, 7), (⟨"MixfixBench$Parser", "parseRank", "()V"⟩, 4), (⟨"MixfixBench$Parser", "refuse", "()V"⟩, 4), (⟨"MixfixBench$Parser", "blame", "(II)V"⟩, 4), (⟨"MixfixBench$Parser", "pass", "(I)Z"⟩, 4), (⟨"MixfixBench$Parser", "parseTighter", "()V"⟩, 4), (⟨"MixfixBench$Parser", "passRank", "()I"⟩, 4), (⟨"MixfixBench$Parser", "passName", "(I)I"⟩, 4), (⟨"MixfixBench$Parser", "parseKind", "()V"⟩, 4), (⟨"MixfixBench$Parser", "passKind", "()I"⟩, 4), (⟨"MixfixBench$Parser", "parseWord", "()V"⟩, 4), (⟨"MixfixBench$Parser", "parseLean", "(LMixfixBench$Word;)V"⟩, 4)]
theorem lw_r1 : ∀ q ∈ lw_privs_1, lw_okq q := List.forall_mem_cons.mpr ⟨lw_p0, List.forall_mem_cons.mpr ⟨lw_p1, List.forall_mem_cons.mpr ⟨lw_p2, List.forall_mem_cons.mpr ⟨lw_p3, List.forall_mem_cons.mpr ⟨lw_p4, List.forall_mem_cons.mpr ⟨lw_p5, List.forall_mem_cons.mpr ⟨lw_p6, List.forall_mem_cons.mpr ⟨lw_p7, List.forall_mem_cons.mpr ⟨lw_p8, List.forall_mem_cons.mpr ⟨lw_p9, List.forall_mem_cons.mpr ⟨lw_p10, List.forall_mem_cons.mpr ⟨lw_p11, List.forall_mem_cons.mpr ⟨lw_p12, List.forall_mem_cons.mpr ⟨lw_p13, List.forall_mem_cons.mpr ⟨lw_p14, List.forall_mem_cons.mpr ⟨lw_p15, fun _ h => absurd h List.not_mem_nil⟩⟩⟩⟩⟩⟩⟩⟩⟩⟩⟩⟩⟩⟩⟩⟩
theorem lw_p16 : lw_okq (⟨"MixfixBench$Parser", "parseElements", "(LMixfixBench$Word;)Z"⟩, 4) := ⟨⟨by decide +kernel, by decide +kernel⟩, List.mem_of_getElem? (i := 183) (by decide +kernel), List.mem_of_getElem? (i := 618) (by decide +kernel), List.mem_of_getElem? (i := 619) (by decide +kernel)⟩
theorem lw_p17 : lw_okq (⟨"MixfixBench$Parser", "parseSteps", "(LMixfixBench$Word;)Z"⟩, 4) := ⟨⟨by decide +kernel, by decide +kernel⟩, List.mem_of_getElem? (i := 183) (by decide +kernel), List.mem_of_getElem? (i := 646) (by decide +kernel), List.mem_of_getElem? (i := 647) (by decide +kernel)⟩
theorem lw_p18 : lw_okq (⟨"MixfixBench$Parser", "parseStep", "(LMixfixBench$Word;I)I"⟩, 4) := ⟨⟨by decide +kernel, by decide +kernel⟩, List.mem_of_getElem? (i := 183) (by decide +kernel), List.mem_of_getElem? (i := 650) (by decide +kernel), List.mem_of_getElem? (i := 651) (by decide +kernel)⟩
theorem lw_p19 : lw_okq (⟨"MixfixBench$Parser", "isNumber", "()Z"⟩, 4) := ⟨⟨by decide +kernel, by decide +kernel⟩, List.mem_of_getElem? (i := 183) (by decide +kernel), List.mem_of_getElem? (i := 654) (by decide +kernel), List.mem_of_getElem? (i := 655) (by decide +kernel)⟩
theorem lw_p20 : lw_okq (⟨"MixfixBench$Book", "wordsFitting", "(LMixfixBench$Word;I)I"⟩, 8) := ⟨⟨by decide +kernel, by decide +kernel⟩, List.mem_of_getElem? (i := 40) (by decide +kernel), List.mem_of_getElem? (i := 682) (by decide +kernel), List.mem_of_getElem? (i := 683) (by decide +kernel)⟩
theorem lw_p21 : lw_okq (⟨"MixfixBench", "dropReading", "()V"⟩, 9) := ⟨⟨by decide +kernel, by decide +kernel⟩, List.mem_of_getElem? (i := 15) (by decide +kernel), List.mem_of_getElem? (i := 687) (by decide +kernel), List.mem_of_getElem? (i := 688) (by decide +kernel)⟩
theorem lw_p22 : lw_okq (⟨"MixfixBench$Chart", "fillStretch", "(II)V"⟩, 8) := ⟨⟨by decide +kernel, by decide +kernel⟩, List.mem_of_getElem? (i := 290) (by decide +kernel), List.mem_of_getElem? (i := 756) (by decide +kernel), List.mem_of_getElem? (i := 757) (by decide +kernel)⟩
theorem lw_p23 : lw_okq (⟨"MixfixBench$Chart", "ways", "(IIII)J"⟩, 8) := ⟨⟨by decide +kernel, by decide +kernel⟩, List.mem_of_getElem? (i := 290) (by decide +kernel), List.mem_of_getElem? (i := 763) (by decide +kernel), List.mem_of_getElem? (i := 764) (by decide +kernel)⟩
theorem lw_p24 : lw_okq (⟨"MixfixBench$Chart", "fillKinds", "(II)V"⟩, 8) := ⟨⟨by decide +kernel, by decide +kernel⟩, List.mem_of_getElem? (i := 290) (by decide +kernel), List.mem_of_getElem? (i := 787) (by decide +kernel), List.mem_of_getElem? (i := 788) (by decide +kernel)⟩
theorem lw_p25 : lw_okq (⟨"MixfixBench$Chart", "sumOfKinds", "(II)J"⟩, 8) := ⟨⟨by decide +kernel, by decide +kernel⟩, List.mem_of_getElem? (i := 290) (by decide +kernel), List.mem_of_getElem? (i := 810) (by decide +kernel), List.mem_of_getElem? (i := 811) (by decide +kernel)⟩
theorem lw_p26 : lw_okq (⟨"MixfixBench$Chart", "sumOfWords", "(II)J"⟩, 8) := ⟨⟨by decide +kernel, by decide +kernel⟩, List.mem_of_getElem? (i := 290) (by decide +kernel), List.mem_of_getElem? (i := 816) (by decide +kernel), List.mem_of_getElem? (i := 817) (by decide +kernel)⟩
theorem lw_p27 : lw_okq (⟨"MixfixBench$Chart", "fillHoles", "(II)V"⟩, 8) := ⟨⟨by decide +kernel, by decide +kernel⟩, List.mem_of_getElem? (i := 290) (by decide +kernel), List.mem_of_getElem? (i := 820) (by decide +kernel), List.mem_of_getElem? (i := 821) (by decide +kernel)⟩
theorem lw_p28 : lw_okq (⟨"MixfixBench$Chart", "fillTails", "(III)V"⟩, 8) := ⟨⟨by decide +kernel, by decide +kernel⟩, List.mem_of_getElem? (i := 290) (by decide +kernel), List.mem_of_getElem? (i := 824) (by decide +kernel), List.mem_of_getElem? (i := 825) (by decide +kernel)⟩
theorem lw_p29 : lw_okq (⟨"MixfixBench$Finder", "await", "(IIII)V"⟩, 13) := ⟨⟨by decide +kernel, by decide +kernel⟩, List.mem_of_getElem? (i := 323) (by decide +kernel), List.mem_of_getElem? (i := 845) (by decide +kernel), List.mem_of_getElem? (i := 846) (by decide +kernel)⟩
theorem lw_p30 : lw_okq (⟨"MixfixBench$Finder", "demand", "(IIJ)V"⟩, 13) := ⟨⟨by decide +kernel, by decide +kernel⟩, List.mem_of_getElem? (i := 323) (by decide +kernel), List.mem_of_getElem? (i := 849) (by decide +kernel), List.mem_of_getElem? (i := 850) (by decide +kernel)⟩
theorem lw_p31 : lw_okq (⟨"MixfixBench$Finder", "makeNode", "()V"⟩, 13) := ⟨⟨by decide +kernel, by decide +kernel⟩, List.mem_of_getElem? (i := 323) (by decide +kernel), List.mem_of_getElem? (i := 853) (by decide +kernel), List.mem_of_getElem? (i := 854) (by decide +kernel)⟩
def lw_privs_2 : List (MethodName × Nat) := [(⟨"MixfixBench$Parser", "parseElements", "(LMixfixBench$Word;)Z"⟩, 4), (⟨"MixfixBench$Parser", "parseSteps", "(LMixfixBench$Word;)Z"⟩, 4), (⟨"MixfixBench$Parser", "parseStep", "(LMixfixBench$Word;I)I"⟩, 4), (⟨"MixfixBench$Parser", "isNumber", "()Z"⟩, 4), (⟨"MixfixBench$Book", "wordsFitting", "(LMixfixBench$Word;I)I"⟩, 8), (⟨"MixfixBench", "dropReading", "()V"⟩, 9), (⟨"MixfixBench$Chart", "fillStretch", "(II)V"⟩, 8), (⟨"MixfixBench$Chart", "ways", "(IIII)J"⟩, 8), (⟨"MixfixBench$Chart", "fillKinds", "(II)V"⟩, 8), (⟨"MixfixBench$Chart", "sumOfKinds", "(II)J"⟩, 8), (⟨"MixfixBench$Chart", "sumOfWords", "(II)J"⟩, 8), (⟨"MixfixBench$Chart", "fillHoles", "(II)V"⟩, 8), (⟨"MixfixBench$Chart", "fillTails", "(III)V"⟩, 8), (⟨"MixfixBench$Finder", "await", "(IIII)V"⟩, 13), (⟨"MixfixBench$Finder", "demand", "(IIJ)V"⟩, 13), (⟨"MixfixBench$Finder", "makeNode", "()V"⟩, 13)]
theorem lw_r2 : ∀ q ∈ lw_privs_2, lw_okq q := List.forall_mem_cons.mpr ⟨lw_p16, List.forall_mem_cons.mpr ⟨lw_p17, List.forall_mem_cons.mpr ⟨lw_p18, List.forall_mem_cons.mpr ⟨lw_p19, List.forall_mem_cons.mpr ⟨lw_p20, List.forall_mem_cons.mpr ⟨lw_p21, List.forall_mem_cons.mpr ⟨lw_p22, List.forall_mem_cons.mpr ⟨lw_p23, List.forall_mem_cons.mpr ⟨lw_p24, List.forall_mem_cons.mpr ⟨lw_p25, List.forall_mem_cons.mpr ⟨lw_p26, List.forall_mem_cons.mpr ⟨lw_p27, List.forall_mem_cons.mpr ⟨lw_p28, List.forall_mem_cons.mpr ⟨lw_p29, List.forall_mem_cons.mpr ⟨lw_p30, List.forall_mem_cons.mpr ⟨lw_p31, fun _ h => absurd h List.not_mem_nil⟩⟩⟩⟩⟩⟩⟩⟩⟩⟩⟩⟩⟩⟩⟩⟩
theorem lw_p32 : lw_okq (⟨"MixfixBench$Finder", "chooseWord", "(I)I"⟩, 13) := ⟨⟨by decide +kernel, by decide +kernel⟩, List.mem_of_getElem? (i := 323) (by decide +kernel), List.mem_of_getElem? (i := 857) (by decide +kernel), List.mem_of_getElem? (i := 858) (by decide +kernel)⟩
theorem lw_p33 : lw_okq (⟨"MixfixBench$Finder", "splitWord", "(IIIJ)J"⟩, 13) := ⟨⟨by decide +kernel, by decide +kernel⟩, List.mem_of_getElem? (i := 323) (by decide +kernel), List.mem_of_getElem? (i := 879) (by decide +kernel), List.mem_of_getElem? (i := 880) (by decide +kernel)⟩
theorem lw_p34 : lw_okq (⟨"MixfixBench$Finder", "fillWord", "(IIJ)V"⟩, 13) := ⟨⟨by decide +kernel, by decide +kernel⟩, List.mem_of_getElem? (i := 323) (by decide +kernel), List.mem_of_getElem? (i := 887) (by decide +kernel), List.mem_of_getElem? (i := 888) (by decide +kernel)⟩
theorem lw_p35 : lw_okq (⟨"MixfixBench$Worker", "workNode", "(LMixfixBench$Book;I)I"⟩, 7) := ⟨⟨by decide +kernel, by decide +kernel⟩, List.mem_of_getElem? (i := 369) (by decide +kernel), List.mem_of_getElem? (i := 909) (by decide +kernel), List.mem_of_getElem? (i := 910) (by decide +kernel)⟩
theorem lw_p36 : lw_okq (⟨"MixfixBench$Worker", "runSteps", "(LMixfixBench$Word;I)Z"⟩, 7) := ⟨⟨by decide +kernel, by decide +kernel⟩, List.mem_of_getElem? (i := 369) (by decide +kernel), List.mem_of_getElem? (i := 918) (by decide +kernel), List.mem_of_getElem? (i := 919) (by decide +kernel)⟩
theorem lw_p37 : lw_okq (⟨"MixfixBench$Worker", "push", "(I)V"⟩, 7) := ⟨⟨by decide +kernel, by decide +kernel⟩, List.mem_of_getElem? (i := 369) (by decide +kernel), List.mem_of_getElem? (i := 922) (by decide +kernel), List.mem_of_getElem? (i := 923) (by decide +kernel)⟩
theorem lw_p38 : lw_okq (⟨"MixfixBench$Worker", "operate", "(I)Z"⟩, 7) := ⟨⟨by decide +kernel, by decide +kernel⟩, List.mem_of_getElem? (i := 369) (by decide +kernel), List.mem_of_getElem? (i := 926) (by decide +kernel), List.mem_of_getElem? (i := 927) (by decide +kernel)⟩
theorem lw_p39 : lw_okq (⟨"MixfixBenchModel", "next", "()V"⟩, 72) := ⟨⟨by decide +kernel, by decide +kernel⟩, List.mem_of_getElem? (i := 956) (by decide +kernel), List.mem_of_getElem? (i := 1186) (by decide +kernel), List.mem_of_getElem? (i := 1187) (by decide +kernel)⟩
theorem lw_p40 : lw_okq (⟨"MixfixBenchModel", "sign", "(I)I"⟩, 72) := ⟨⟨by decide +kernel, by decide +kernel⟩, List.mem_of_getElem? (i := 956) (by decide +kernel), List.mem_of_getElem? (i := 1190) (by decide +kernel), List.mem_of_getElem? (i := 1191) (by decide +kernel)⟩
theorem lw_p41 : lw_okq (⟨"MixfixBenchModel", "pack", "(II)V"⟩, 72) := ⟨⟨by decide +kernel, by decide +kernel⟩, List.mem_of_getElem? (i := 956) (by decide +kernel), List.mem_of_getElem? (i := 1200) (by decide +kernel), List.mem_of_getElem? (i := 1201) (by decide +kernel)⟩
theorem lw_p42 : lw_okq (⟨"MixfixBenchModel", "nextPart", "()V"⟩, 72) := ⟨⟨by decide +kernel, by decide +kernel⟩, List.mem_of_getElem? (i := 956) (by decide +kernel), List.mem_of_getElem? (i := 1211) (by decide +kernel), List.mem_of_getElem? (i := 1212) (by decide +kernel)⟩
theorem lw_p43 : lw_okq (⟨"MixfixBenchModel", "isGood", "()Z"⟩, 72) := ⟨⟨by decide +kernel, by decide +kernel⟩, List.mem_of_getElem? (i := 956) (by decide +kernel), List.mem_of_getElem? (i := 1218) (by decide +kernel), List.mem_of_getElem? (i := 1219) (by decide +kernel)⟩
theorem lw_p44 : lw_okq (⟨"MixfixBenchModel", "wrong", "()V"⟩, 72) := ⟨⟨by decide +kernel, by decide +kernel⟩, List.mem_of_getElem? (i := 956) (by decide +kernel), List.mem_of_getElem? (i := 1222) (by decide +kernel), List.mem_of_getElem? (i := 1223) (by decide +kernel)⟩
theorem lw_p45 : lw_okq (⟨"MixfixBenchModel", "fails", "(II)V"⟩, 72) := ⟨⟨by decide +kernel, by decide +kernel⟩, List.mem_of_getElem? (i := 956) (by decide +kernel), List.mem_of_getElem? (i := 1226) (by decide +kernel), List.mem_of_getElem? (i := 1227) (by decide +kernel)⟩
theorem lw_p46 : lw_okq (⟨"MixfixBenchModel", "readRank", "()V"⟩, 72) := ⟨⟨by decide +kernel, by decide +kernel⟩, List.mem_of_getElem? (i := 956) (by decide +kernel), List.mem_of_getElem? (i := 1230) (by decide +kernel), List.mem_of_getElem? (i := 1231) (by decide +kernel)⟩
theorem lw_p47 : lw_okq (⟨"MixfixBenchModel", "rankOf", "(J)I"⟩, 72) := ⟨⟨by decide +kernel, by decide +kernel⟩, List.mem_of_getElem? (i := 956) (by decide +kernel), List.mem_of_getElem? (i := 1234) (by decide +kernel), List.mem_of_getElem? (i := 1235) (by decide +kernel)⟩
def lw_privs_3 : List (MethodName × Nat) := [(⟨"MixfixBench$Finder", "chooseWord", "(I)I"⟩, 13), (⟨"MixfixBench$Finder", "splitWord", "(IIIJ)J"⟩, 13), (⟨"MixfixBench$Finder", "fillWord", "(IIJ)V"⟩, 13), (⟨"MixfixBench$Worker", "workNode", "(LMixfixBench$Book;I)I"⟩, 7), (⟨"MixfixBench$Worker", "runSteps", "(LMixfixBench$Word;I)Z"⟩, 7), (⟨"MixfixBench$Worker", "push", "(I)V"⟩, 7), (⟨"MixfixBench$Worker", "operate", "(I)Z"⟩, 7), (⟨"MixfixBenchModel", "next", "()V"⟩, 72), (⟨"MixfixBenchModel", "sign", "(I)I"⟩, 72), (⟨"MixfixBenchModel", "pack", "(II)V"⟩, 72), (⟨"MixfixBenchModel", "nextPart", "()V"⟩, 72), (⟨"MixfixBenchModel", "isGood", "()Z"⟩, 72), (⟨"MixfixBenchModel", "wrong", "()V"⟩, 72), (⟨"MixfixBenchModel", "fails", "(II)V"⟩, 72), (⟨"MixfixBenchModel", "readRank", "()V"⟩, 72), (⟨"MixfixBenchModel", "rankOf", "(J)I"⟩, 72)]
theorem lw_r3 : ∀ q ∈ lw_privs_3, lw_okq q := List.forall_mem_cons.mpr ⟨lw_p32, List.forall_mem_cons.mpr ⟨lw_p33, List.forall_mem_cons.mpr ⟨lw_p34, List.forall_mem_cons.mpr ⟨lw_p35, List.forall_mem_cons.mpr ⟨lw_p36, List.forall_mem_cons.mpr ⟨lw_p37, List.forall_mem_cons.mpr ⟨lw_p38, List.forall_mem_cons.mpr ⟨lw_p39, List.forall_mem_cons.mpr ⟨lw_p40, List.forall_mem_cons.mpr ⟨lw_p41, List.forall_mem_cons.mpr ⟨lw_p42, List.forall_mem_cons.mpr ⟨lw_p43, List.forall_mem_cons.mpr ⟨lw_p44, List.forall_mem_cons.mpr ⟨lw_p45, List.forall_mem_cons.mpr ⟨lw_p46, List.forall_mem_cons.mpr ⟨lw_p47, fun _ h => absurd h List.not_mem_nil⟩⟩⟩⟩⟩⟩⟩⟩⟩⟩⟩⟩⟩⟩⟩⟩
theorem lw_p48 : lw_okq (⟨"MixfixBenchModel", "must", "(I)V"⟩, 72) := ⟨⟨by decide +kernel, by decide +kernel⟩, List.mem_of_getElem? (i := 956) (by decide +kernel), List.mem_of_getElem? (i := 1238) (by decide +kernel), List.mem_of_getElem? (i := 1239) (by decide +kernel)⟩
theorem lw_p49 : lw_okq (⟨"MixfixBenchModel", "is", "(I)Z"⟩, 72) := ⟨⟨by decide +kernel, by decide +kernel⟩, List.mem_of_getElem? (i := 956) (by decide +kernel), List.mem_of_getElem? (i := 1242) (by decide +kernel), List.mem_of_getElem? (i := 1243) (by decide +kernel)⟩
theorem lw_p50 : lw_okq (⟨"MixfixBenchModel", "readTighter", "()V"⟩, 72) := ⟨⟨by decide +kernel, by decide +kernel⟩, List.mem_of_getElem? (i := 956) (by decide +kernel), List.mem_of_getElem? (i := 1246) (by decide +kernel), List.mem_of_getElem? (i := 1247) (by decide +kernel)⟩
theorem lw_p51 : lw_okq (⟨"MixfixBenchModel", "aRank", "()I"⟩, 72) := ⟨⟨by decide +kernel, by decide +kernel⟩, List.mem_of_getElem? (i := 956) (by decide +kernel), List.mem_of_getElem? (i := 1250) (by decide +kernel), List.mem_of_getElem? (i := 1251) (by decide +kernel)⟩
theorem lw_p52 : lw_okq (⟨"MixfixBenchModel", "tight", "(II)Z"⟩, 72) := ⟨⟨by decide +kernel, by decide +kernel⟩, List.mem_of_getElem? (i := 956) (by decide +kernel), List.mem_of_getElem? (i := 1254) (by decide +kernel), List.mem_of_getElem? (i := 1255) (by decide +kernel)⟩
theorem lw_p53 : lw_okq (⟨"MixfixBenchModel", "readKind", "()V"⟩, 72) := ⟨⟨by decide +kernel, by decide +kernel⟩, List.mem_of_getElem? (i := 956) (by decide +kernel), List.mem_of_getElem? (i := 1258) (by decide +kernel), List.mem_of_getElem? (i := 1259) (by decide +kernel)⟩
theorem lw_p54 : lw_okq (⟨"MixfixBenchModel", "kindOf", "(J)I"⟩, 72) := ⟨⟨by decide +kernel, by decide +kernel⟩, List.mem_of_getElem? (i := 956) (by decide +kernel), List.mem_of_getElem? (i := 1262) (by decide +kernel), List.mem_of_getElem? (i := 1263) (by decide +kernel)⟩
theorem lw_p55 : lw_okq (⟨"MixfixBenchModel", "isWord", "(J)Z"⟩, 72) := ⟨⟨by decide +kernel, by decide +kernel⟩, List.mem_of_getElem? (i := 956) (by decide +kernel), List.mem_of_getElem? (i := 1266) (by decide +kernel), List.mem_of_getElem? (i := 1267) (by decide +kernel)⟩
theorem lw_p56 : lw_okq (⟨"MixfixBenchModel", "aKind", "()I"⟩, 72) := ⟨⟨by decide +kernel, by decide +kernel⟩, List.mem_of_getElem? (i := 956) (by decide +kernel), List.mem_of_getElem? (i := 1270) (by decide +kernel), List.mem_of_getElem? (i := 1271) (by decide +kernel)⟩
theorem lw_p57 : lw_okq (⟨"MixfixBenchModel", "readWord", "()V"⟩, 72) := ⟨⟨by decide +kernel, by decide +kernel⟩, List.mem_of_getElem? (i := 956) (by decide +kernel), List.mem_of_getElem? (i := 1274) (by decide +kernel), List.mem_of_getElem? (i := 1275) (by decide +kernel)⟩
theorem lw_p58 : lw_okq (⟨"MixfixBenchModel", "readElement", "(I)V"⟩, 72) := ⟨⟨by decide +kernel, by decide +kernel⟩, List.mem_of_getElem? (i := 956) (by decide +kernel), List.mem_of_getElem? (i := 1278) (by decide +kernel), List.mem_of_getElem? (i := 1279) (by decide +kernel)⟩
theorem lw_p59 : lw_okq (⟨"MixfixBenchModel", "ends", "(I)I"⟩, 72) := ⟨⟨by decide +kernel, by decide +kernel⟩, List.mem_of_getElem? (i := 956) (by decide +kernel), List.mem_of_getElem? (i := 1282) (by decide +kernel), List.mem_of_getElem? (i := 1283) (by decide +kernel)⟩
theorem lw_p60 : lw_okq (⟨"MixfixBenchModel", "readSteps", "(I)V"⟩, 72) := ⟨⟨by decide +kernel, by decide +kernel⟩, List.mem_of_getElem? (i := 956) (by decide +kernel), List.mem_of_getElem? (i := 1286) (by decide +kernel), List.mem_of_getElem? (i := 1287) (by decide +kernel)⟩
theorem lw_p61 : lw_okq (⟨"MixfixBenchModel", "isWordNumber", "(I)Z"⟩, 72) := ⟨⟨by decide +kernel, by decide +kernel⟩, List.mem_of_getElem? (i := 956) (by decide +kernel), List.mem_of_getElem? (i := 1302) (by decide +kernel), List.mem_of_getElem? (i := 1303) (by decide +kernel)⟩
theorem lw_p62 : lw_okq (⟨"MixfixBenchModel", "isUnder", "(II)Z"⟩, 72) := ⟨⟨by decide +kernel, by decide +kernel⟩, List.mem_of_getElem? (i := 956) (by decide +kernel), List.mem_of_getElem? (i := 1314) (by decide +kernel), List.mem_of_getElem? (i := 1315) (by decide +kernel)⟩
theorem lw_p63 : lw_okq (⟨"MixfixBenchModel", "countAll", "()V"⟩, 72) := ⟨⟨by decide +kernel, by decide +kernel⟩, List.mem_of_getElem? (i := 956) (by decide +kernel), List.mem_of_getElem? (i := 1322) (by decide +kernel), List.mem_of_getElem? (i := 1323) (by decide +kernel)⟩
def lw_privs_4 : List (MethodName × Nat) := [(⟨"MixfixBenchModel", "must", "(I)V"⟩, 72), (⟨"MixfixBenchModel", "is", "(I)Z"⟩, 72), (⟨"MixfixBenchModel", "readTighter", "()V"⟩, 72), (⟨"MixfixBenchModel", "aRank", "()I"⟩, 72), (⟨"MixfixBenchModel", "tight", "(II)Z"⟩, 72), (⟨"MixfixBenchModel", "readKind", "()V"⟩, 72), (⟨"MixfixBenchModel", "kindOf", "(J)I"⟩, 72), (⟨"MixfixBenchModel", "isWord", "(J)Z"⟩, 72), (⟨"MixfixBenchModel", "aKind", "()I"⟩, 72), (⟨"MixfixBenchModel", "readWord", "()V"⟩, 72), (⟨"MixfixBenchModel", "readElement", "(I)V"⟩, 72), (⟨"MixfixBenchModel", "ends", "(I)I"⟩, 72), (⟨"MixfixBenchModel", "readSteps", "(I)V"⟩, 72), (⟨"MixfixBenchModel", "isWordNumber", "(I)Z"⟩, 72), (⟨"MixfixBenchModel", "isUnder", "(II)Z"⟩, 72), (⟨"MixfixBenchModel", "countAll", "()V"⟩, 72)]
theorem lw_r4 : ∀ q ∈ lw_privs_4, lw_okq q := List.forall_mem_cons.mpr ⟨lw_p48, List.forall_mem_cons.mpr ⟨lw_p49, List.forall_mem_cons.mpr ⟨lw_p50, List.forall_mem_cons.mpr ⟨lw_p51, List.forall_mem_cons.mpr ⟨lw_p52, List.forall_mem_cons.mpr ⟨lw_p53, List.forall_mem_cons.mpr ⟨lw_p54, List.forall_mem_cons.mpr ⟨lw_p55, List.forall_mem_cons.mpr ⟨lw_p56, List.forall_mem_cons.mpr ⟨lw_p57, List.forall_mem_cons.mpr ⟨lw_p58, List.forall_mem_cons.mpr ⟨lw_p59, List.forall_mem_cons.mpr ⟨lw_p60, List.forall_mem_cons.mpr ⟨lw_p61, List.forall_mem_cons.mpr ⟨lw_p62, List.forall_mem_cons.mpr ⟨lw_p63, fun _ h => absurd h List.not_mem_nil⟩⟩⟩⟩⟩⟩⟩⟩⟩⟩⟩⟩⟩⟩⟩⟩
theorem lw_p64 : lw_okq (⟨"MixfixBenchModel", "wordWays", "(III)J"⟩, 72) := ⟨⟨by decide +kernel, by decide +kernel⟩, List.mem_of_getElem? (i := 956) (by decide +kernel), List.mem_of_getElem? (i := 1329) (by decide +kernel), List.mem_of_getElem? (i := 1330) (by decide +kernel)⟩
theorem lw_p65 : lw_okq (⟨"MixfixBenchModel", "kindWays", "(III)J"⟩, 72) := ⟨⟨by decide +kernel, by decide +kernel⟩, List.mem_of_getElem? (i := 956) (by decide +kernel), List.mem_of_getElem? (i := 1343) (by decide +kernel), List.mem_of_getElem? (i := 1344) (by decide +kernel)⟩
theorem lw_p66 : lw_okq (⟨"MixfixBenchModel", "isNumber", "(II)Z"⟩, 72) := ⟨⟨by decide +kernel, by decide +kernel⟩, List.mem_of_getElem? (i := 956) (by decide +kernel), List.mem_of_getElem? (i := 1347) (by decide +kernel), List.mem_of_getElem? (i := 1348) (by decide +kernel)⟩
theorem lw_p67 : lw_okq (⟨"MixfixBenchModel", "numberKind", "()I"⟩, 72) := ⟨⟨by decide +kernel, by decide +kernel⟩, List.mem_of_getElem? (i := 956) (by decide +kernel), List.mem_of_getElem? (i := 1351) (by decide +kernel), List.mem_of_getElem? (i := 1352) (by decide +kernel)⟩
theorem lw_p68 : lw_okq (⟨"MixfixBenchModel", "holeWays", "(IIII)J"⟩, 72) := ⟨⟨by decide +kernel, by decide +kernel⟩, List.mem_of_getElem? (i := 956) (by decide +kernel), List.mem_of_getElem? (i := 1355) (by decide +kernel), List.mem_of_getElem? (i := 1356) (by decide +kernel)⟩
theorem lw_p69 : lw_okq (⟨"MixfixBenchModel", "endOf", "(II)I"⟩, 72) := ⟨⟨by decide +kernel, by decide +kernel⟩, List.mem_of_getElem? (i := 956) (by decide +kernel), List.mem_of_getElem? (i := 1359) (by decide +kernel), List.mem_of_getElem? (i := 1360) (by decide +kernel)⟩
theorem lw_p70 : lw_okq (⟨"MixfixBenchModel", "letsRank", "(III)Z"⟩, 72) := ⟨⟨by decide +kernel, by decide +kernel⟩, List.mem_of_getElem? (i := 956) (by decide +kernel), List.mem_of_getElem? (i := 1363) (by decide +kernel), List.mem_of_getElem? (i := 1364) (by decide +kernel)⟩
theorem lw_p71 : lw_okq (⟨"MixfixBenchModel", "allWays", "(II)J"⟩, 72) := ⟨⟨by decide +kernel, by decide +kernel⟩, List.mem_of_getElem? (i := 956) (by decide +kernel), List.mem_of_getElem? (i := 1371) (by decide +kernel), List.mem_of_getElem? (i := 1372) (by decide +kernel)⟩
theorem lw_p72 : lw_okq (⟨"MixfixBenchModel", "pile", "(IIIIIJII)V"⟩, 72) := ⟨⟨by decide +kernel, by decide +kernel⟩, List.mem_of_getElem? (i := 956) (by decide +kernel), List.mem_of_getElem? (i := 1384) (by decide +kernel), List.mem_of_getElem? (i := 1385) (by decide +kernel)⟩
theorem lw_p73 : lw_okq (⟨"MixfixBenchModel", "open", "(I)V"⟩, 72) := ⟨⟨by decide +kernel, by decide +kernel⟩, List.mem_of_getElem? (i := 956) (by decide +kernel), List.mem_of_getElem? (i := 1388) (by decide +kernel), List.mem_of_getElem? (i := 1389) (by decide +kernel)⟩
theorem lw_p74 : lw_okq (⟨"MixfixBenchModel", "cut", "(IIIJI)V"⟩, 72) := ⟨⟨by decide +kernel, by decide +kernel⟩, List.mem_of_getElem? (i := 956) (by decide +kernel), List.mem_of_getElem? (i := 1392) (by decide +kernel), List.mem_of_getElem? (i := 1393) (by decide +kernel)⟩
theorem lw_p75 : lw_okq (⟨"MixfixBenchModel", "restWays", "(II)V"⟩, 72) := ⟨⟨by decide +kernel, by decide +kernel⟩, List.mem_of_getElem? (i := 956) (by decide +kernel), List.mem_of_getElem? (i := 1396) (by decide +kernel), List.mem_of_getElem? (i := 1397) (by decide +kernel)⟩
theorem lw_p76 : lw_okq (⟨"MixfixBenchModel", "behind", "(I)I"⟩, 72) := ⟨⟨by decide +kernel, by decide +kernel⟩, List.mem_of_getElem? (i := 956) (by decide +kernel), List.mem_of_getElem? (i := 1412) (by decide +kernel), List.mem_of_getElem? (i := 1413) (by decide +kernel)⟩
theorem lw_p77 : lw_okq (⟨"MixfixBenchModel", "isThrough", "(I)Z"⟩, 72) := ⟨⟨by decide +kernel, by decide +kernel⟩, List.mem_of_getElem? (i := 956) (by decide +kernel), List.mem_of_getElem? (i := 1416) (by decide +kernel), List.mem_of_getElem? (i := 1417) (by decide +kernel)⟩
theorem lw_p78 : lw_okq (⟨"MixfixBenchModel", "nextWithin", "(I)I"⟩, 72) := ⟨⟨by decide +kernel, by decide +kernel⟩, List.mem_of_getElem? (i := 956) (by decide +kernel), List.mem_of_getElem? (i := 1420) (by decide +kernel), List.mem_of_getElem? (i := 1421) (by decide +kernel)⟩
theorem lw_p79 : lw_okq (⟨"MixfixBenchModel", "value", "(I)I"⟩, 72) := ⟨⟨by decide +kernel, by decide +kernel⟩, List.mem_of_getElem? (i := 956) (by decide +kernel), List.mem_of_getElem? (i := 1424) (by decide +kernel), List.mem_of_getElem? (i := 1425) (by decide +kernel)⟩
def lw_privs_5 : List (MethodName × Nat) := [(⟨"MixfixBenchModel", "wordWays", "(III)J"⟩, 72), (⟨"MixfixBenchModel", "kindWays", "(III)J"⟩, 72), (⟨"MixfixBenchModel", "isNumber", "(II)Z"⟩, 72), (⟨"MixfixBenchModel", "numberKind", "()I"⟩, 72), (⟨"MixfixBenchModel", "holeWays", "(IIII)J"⟩, 72), (⟨"MixfixBenchModel", "endOf", "(II)I"⟩, 72), (⟨"MixfixBenchModel", "letsRank", "(III)Z"⟩, 72), (⟨"MixfixBenchModel", "allWays", "(II)J"⟩, 72), (⟨"MixfixBenchModel", "pile", "(IIIIIJII)V"⟩, 72), (⟨"MixfixBenchModel", "open", "(I)V"⟩, 72), (⟨"MixfixBenchModel", "cut", "(IIIJI)V"⟩, 72), (⟨"MixfixBenchModel", "restWays", "(II)V"⟩, 72), (⟨"MixfixBenchModel", "behind", "(I)I"⟩, 72), (⟨"MixfixBenchModel", "isThrough", "(I)Z"⟩, 72), (⟨"MixfixBenchModel", "nextWithin", "(I)I"⟩, 72), (⟨"MixfixBenchModel", "value", "(I)I"⟩, 72)]
theorem lw_r5 : ∀ q ∈ lw_privs_5, lw_okq q := List.forall_mem_cons.mpr ⟨lw_p64, List.forall_mem_cons.mpr ⟨lw_p65, List.forall_mem_cons.mpr ⟨lw_p66, List.forall_mem_cons.mpr ⟨lw_p67, List.forall_mem_cons.mpr ⟨lw_p68, List.forall_mem_cons.mpr ⟨lw_p69, List.forall_mem_cons.mpr ⟨lw_p70, List.forall_mem_cons.mpr ⟨lw_p71, List.forall_mem_cons.mpr ⟨lw_p72, List.forall_mem_cons.mpr ⟨lw_p73, List.forall_mem_cons.mpr ⟨lw_p74, List.forall_mem_cons.mpr ⟨lw_p75, List.forall_mem_cons.mpr ⟨lw_p76, List.forall_mem_cons.mpr ⟨lw_p77, List.forall_mem_cons.mpr ⟨lw_p78, List.forall_mem_cons.mpr ⟨lw_p79, fun _ h => absurd h List.not_mem_nil⟩⟩⟩⟩⟩⟩⟩⟩⟩⟩⟩⟩⟩⟩⟩⟩
theorem lw_p80 : lw_okq (⟨"MixfixBenchModel", "steps", "(II)I"⟩, 72) := ⟨⟨by decide +kernel, by decide +kernel⟩, List.mem_of_getElem? (i := 956) (by decide +kernel), List.mem_of_getElem? (i := 1428) (by decide +kernel), List.mem_of_getElem? (i := 1429) (by decide +kernel)⟩
theorem lw_p81 : lw_okq (⟨"MixfixBenchModel", "isAgainst", "(II)Z"⟩, 72) := ⟨⟨by decide +kernel, by decide +kernel⟩, List.mem_of_getElem? (i := 956) (by decide +kernel), List.mem_of_getElem? (i := 1440) (by decide +kernel), List.mem_of_getElem? (i := 1441) (by decide +kernel)⟩
def lw_privs_6 : List (MethodName × Nat) := [(⟨"MixfixBenchModel", "steps", "(II)I"⟩, 72), (⟨"MixfixBenchModel", "isAgainst", "(II)Z"⟩, 72)]
theorem lw_r6 : ∀ q ∈ lw_privs_6, lw_okq q := List.forall_mem_cons.mpr ⟨lw_p80, List.forall_mem_cons.mpr ⟨lw_p81, fun _ h => absurd h List.not_mem_nil⟩⟩
def lw_privs : List (MethodName × Nat) := lw_privs_1 ++ (lw_privs_2 ++ (lw_privs_3 ++ (lw_privs_4 ++ (lw_privs_5 ++ (lw_privs_6)))))
def lw_tbl : List Cond := k2_sels lw_privs ++ tables_1
theorem lw_privs_ok : ∀ q ∈ lw_privs, lw_okq q := by
  show ∀ q ∈ lw_privs_1 ++ (lw_privs_2 ++ (lw_privs_3 ++ (lw_privs_4 ++ (lw_privs_5 ++ (lw_privs_6))))), lw_okq q
  exact List.forall_mem_append.mpr ⟨lw_r1, List.forall_mem_append.mpr ⟨lw_r2, List.forall_mem_append.mpr ⟨lw_r3, List.forall_mem_append.mpr ⟨lw_r4, List.forall_mem_append.mpr ⟨lw_r5, lw_r6⟩⟩⟩⟩⟩
-- ===== end of PART A =====
def RX0 : String := "MixfixBench$Book"
def TX0 : u_T := fun k => match k with
  | 0 => ("MixfixBench$Book", "rankCount", "I", false)
  | 1 => ("MixfixBench$Book", "kindCount", "I", false)
  | 2 => ("MixfixBench$Book", "wordCount", "I", false)
  | 3 => ("MixfixBench$Book", "rankNames", "[J", true)
  | 4 => ("MixfixBench$Book", "looser", "[I", true)
  | 5 => ("MixfixBench$Book", "kindNames", "[J", true)
  | 6 => ("MixfixBench$Book", "above", "[I", true)
  | _ => ("MixfixBench$Book", "words", "[LMixfixBench$Word;", true)
def tyX0 : Nat → FieldType := fun k => match k with
  | 0 => .int
  | 1 => .int
  | 2 => .int
  | 3 => .array .long
  | 4 => .array .int
  | 5 => .array .long
  | 6 => .array .int
  | _ => .array (.object "MixfixBench$Word")
theorem nmX0 : ∀ a, a < 8 → ∀ b, b < 8 → a ≠ b → (TX0 a).2.1 ≠ (TX0 b).2.1 := by decide +kernel
theorem tyX0_ok : ∀ k, k < 8 → parseFieldDescriptor (TX0 k).2.2.1 = some (tyX0 k) := by decide +kernel
abbrev cX0_init : ByteArray := prog_2_method_1_code
def yX0_init : MethodName := ⟨RX0, "<init>", "()V"⟩
abbrev cX0_clear : ByteArray := prog_2_method_2_code
def yX0_clear : MethodName := ⟨RX0, "clear", "()V"⟩
abbrev cX0_hasRank : ByteArray := prog_2_method_3_code
def yX0_hasRank : MethodName := ⟨RX0, "hasRank", "(I)Z"⟩
abbrev cX0_hasKind : ByteArray := prog_2_method_4_code
def yX0_hasKind : MethodName := ⟨RX0, "hasKind", "(I)Z"⟩
abbrev cX0_hasWord : ByteArray := prog_2_method_5_code
def yX0_hasWord : MethodName := ⟨RX0, "hasWord", "(I)Z"⟩
abbrev cX0_rankNamed : ByteArray := prog_2_method_6_code
def yX0_rankNamed : MethodName := ⟨RX0, "rankNamed", "(J)I"⟩
abbrev cX0_kindNamed : ByteArray := prog_2_method_7_code
def yX0_kindNamed : MethodName := ⟨RX0, "kindNamed", "(J)I"⟩
abbrev cX0_indexOf : ByteArray := prog_2_method_8_code
def yX0_indexOf : MethodName := ⟨RX0, "indexOf", "([JIJ)I"⟩
abbrev cX0_addRank : ByteArray := prog_2_method_9_code
def yX0_addRank : MethodName := ⟨RX0, "addRank", "(J)V"⟩
abbrev cX0_addKind : ByteArray := prog_2_method_10_code
def yX0_addKind : MethodName := ⟨RX0, "addKind", "(JI)V"⟩
abbrev cX0_setTighter : ByteArray := prog_2_method_11_code
def yX0_setTighter : MethodName := ⟨RX0, "setTighter", "(II)V"⟩
abbrev cX0_isTighter : ByteArray := prog_2_method_12_code
def yX0_isTighter : MethodName := ⟨RX0, "isTighter", "(II)Z"⟩
abbrev cX0_isUnder : ByteArray := prog_2_method_13_code
def yX0_isUnder : MethodName := ⟨RX0, "isUnder", "(II)Z"⟩
abbrev cX0_numberKind : ByteArray := prog_2_method_14_code
def yX0_numberKind : MethodName := ⟨RX0, "numberKind", "()I"⟩
abbrev cX0_kindsUnder : ByteArray := prog_2_method_15_code
def yX0_kindsUnder : MethodName := ⟨RX0, "kindsUnder", "(I)I"⟩
abbrev cX0_wordsOfKinds : ByteArray := prog_2_method_16_code
def yX0_wordsOfKinds : MethodName := ⟨RX0, "wordsOfKinds", "(I)I"⟩
abbrev cX0_settleHoles : ByteArray := prog_2_method_17_code
def yX0_settleHoles : MethodName := ⟨RX0, "settleHoles", "()V"⟩
abbrev cX0_wordsFitting : ByteArray := prog_2_method_18_code
def yX0_wordsFitting : MethodName := ⟨RX0, "wordsFitting", "(LMixfixBench$Word;I)I"⟩
abbrev cX0_isAgainst : ByteArray := prog_2_method_19_code
def yX0_isAgainst : MethodName := ⟨RX0, "isAgainst", "(II)Z"⟩
abbrev cX0_hasPartTwice : ByteArray := prog_2_method_20_code
def yX0_hasPartTwice : MethodName := ⟨RX0, "hasPartTwice", "(LMixfixBench$Word;)Z"⟩
abbrev cX0_shareAPart : ByteArray := prog_2_method_21_code
def yX0_shareAPart : MethodName := ⟨RX0, "shareAPart", "(LMixfixBench$Word;LMixfixBench$Word;)Z"⟩
def RX1 : String := "MixfixBench$Chart"
def TX1 : u_T := fun k => match k with
  | 0 => ("MixfixBench$Chart", "book", "LMixfixBench$Book;", false)
  | 1 => ("MixfixBench$Chart", "sentence", "LMixfixBench$Sentence;", true)
  | 2 => ("MixfixBench$Chart", "filled", "Z", false)
  | 3 => ("MixfixBench$Chart", "ofKind", "[J", true)
  | 4 => ("MixfixBench$Chart", "ofWord", "[J", true)
  | 5 => ("MixfixBench$Chart", "ofAny", "[J", true)
  | 6 => ("MixfixBench$Chart", "ofHole", "[J", true)
  | _ => ("MixfixBench$Chart", "tails", "[J", true)
def tyX1 : Nat → FieldType := fun k => match k with
  | 0 => .object "MixfixBench$Book"
  | 1 => .object "MixfixBench$Sentence"
  | 2 => .boolean
  | 3 => .array .long
  | 4 => .array .long
  | 5 => .array .long
  | 6 => .array .long
  | _ => .array .long
theorem nmX1 : ∀ a, a < 8 → ∀ b, b < 8 → a ≠ b → (TX1 a).2.1 ≠ (TX1 b).2.1 := by decide +kernel
theorem tyX1_ok : ∀ k, k < 8 → parseFieldDescriptor (TX1 k).2.2.1 = some (tyX1 k) := by decide +kernel
abbrev cX1_init : ByteArray := prog_3_method_1_code
def yX1_init : MethodName := ⟨RX1, "<init>", "(LMixfixBench$Book;LMixfixBench$Sentence;)V"⟩
abbrev cX1_startOver : ByteArray := prog_3_method_2_code
def yX1_startOver : MethodName := ⟨RX1, "startOver", "(LMixfixBench$Book;)V"⟩
abbrev cX1_readingsOf : ByteArray := prog_3_method_3_code
def yX1_readingsOf : MethodName := ⟨RX1, "readingsOf", "(II)J"⟩
abbrev cX1_rowOf : ByteArray := prog_3_method_4_code
def yX1_rowOf : MethodName := ⟨RX1, "rowOf", "(II)I"⟩
abbrev cX1_tailOf : ByteArray := prog_3_method_5_code
def yX1_tailOf : MethodName := ⟨RX1, "tailOf", "(III)I"⟩
abbrev cX1_wordReadings : ByteArray := prog_3_method_6_code
def yX1_wordReadings : MethodName := ⟨RX1, "wordReadings", "(III)J"⟩
abbrev cX1_holeReadings : ByteArray := prog_3_method_7_code
def yX1_holeReadings : MethodName := ⟨RX1, "holeReadings", "(IIII)J"⟩
abbrev cX1_plainReadings : ByteArray := prog_3_method_8_code
def yX1_plainReadings : MethodName := ⟨RX1, "plainReadings", "(III)J"⟩
abbrev cX1_sumOfKinds : ByteArray := prog_3_method_9_code
def yX1_sumOfKinds : MethodName := ⟨RX1, "sumOfKinds", "(II)J"⟩
abbrev cX1_sumOfWords : ByteArray := prog_3_method_10_code
def yX1_sumOfWords : MethodName := ⟨RX1, "sumOfWords", "(II)J"⟩
abbrev cX1_fill : ByteArray := prog_3_method_11_code
def yX1_fill : MethodName := ⟨RX1, "fill", "()V"⟩
abbrev cX1_fillStretch : ByteArray := prog_3_method_12_code
def yX1_fillStretch : MethodName := ⟨RX1, "fillStretch", "(II)V"⟩
abbrev cX1_fillKinds : ByteArray := prog_3_method_13_code
def yX1_fillKinds : MethodName := ⟨RX1, "fillKinds", "(II)V"⟩
abbrev cX1_fillHoles : ByteArray := prog_3_method_14_code
def yX1_fillHoles : MethodName := ⟨RX1, "fillHoles", "(II)V"⟩
abbrev cX1_fillTails : ByteArray := prog_3_method_15_code
def yX1_fillTails : MethodName := ⟨RX1, "fillTails", "(III)V"⟩
abbrev cX1_prepareTails : ByteArray := prog_3_method_16_code
def yX1_prepareTails : MethodName := ⟨RX1, "prepareTails", "(III)V"⟩
abbrev cX1_ways : ByteArray := prog_3_method_17_code
def yX1_ways : MethodName := ⟨RX1, "ways", "(IIII)J"⟩
abbrev cX1_tail : ByteArray := prog_3_method_18_code
def yX1_tail : MethodName := ⟨RX1, "tail", "(IIII)J"⟩
def RX2 : String := "MixfixBench$Finder"
def TX2 : u_T := fun k => match k with
  | 0 => ("MixfixBench$Finder", "chart", "LMixfixBench$Chart;", true)
  | 1 => ("MixfixBench$Finder", "sentence", "LMixfixBench$Sentence;", true)
  | 2 => ("MixfixBench$Finder", "reading", "LMixfixBench$Reading;", true)
  | 3 => ("MixfixBench$Finder", "waiting", "I", false)
  | 4 => ("MixfixBench$Finder", "firsts", "[I", true)
  | 5 => ("MixfixBench$Finder", "ends", "[I", true)
  | 6 => ("MixfixBench$Finder", "parents", "[I", true)
  | 7 => ("MixfixBench$Finder", "holes", "[I", true)
  | 8 => ("MixfixBench$Finder", "words", "[I", true)
  | 9 => ("MixfixBench$Finder", "kinds", "[I", true)
  | 10 => ("MixfixBench$Finder", "numbers", "[J", true)
  | 11 => ("MixfixBench$Finder", "holeFirsts", "[I", true)
  | _ => ("MixfixBench$Finder", "holeEnds", "[I", true)
def tyX2 : Nat → FieldType := fun k => match k with
  | 0 => .object "MixfixBench$Chart"
  | 1 => .object "MixfixBench$Sentence"
  | 2 => .object "MixfixBench$Reading"
  | 3 => .int
  | 4 => .array .int
  | 5 => .array .int
  | 6 => .array .int
  | 7 => .array .int
  | 8 => .array .int
  | 9 => .array .int
  | 10 => .array .long
  | 11 => .array .int
  | _ => .array .int
theorem nmX2 : ∀ a, a < 13 → ∀ b, b < 13 → a ≠ b → (TX2 a).2.1 ≠ (TX2 b).2.1 := by decide +kernel
theorem tyX2_ok : ∀ k, k < 13 → parseFieldDescriptor (TX2 k).2.2.1 = some (tyX2 k) := by decide +kernel
abbrev cX2_init : ByteArray := prog_4_method_1_code
def yX2_init : MethodName := ⟨RX2, "<init>", "(LMixfixBench$Chart;LMixfixBench$Sentence;LMixfixBench$Reading;)V"⟩
abbrev cX2_find : ByteArray := prog_4_method_2_code
def yX2_find : MethodName := ⟨RX2, "find", "(J)V"⟩
abbrev cX2_await : ByteArray := prog_4_method_3_code
def yX2_await : MethodName := ⟨RX2, "await", "(IIII)V"⟩
abbrev cX2_demand : ByteArray := prog_4_method_4_code
def yX2_demand : MethodName := ⟨RX2, "demand", "(IIJ)V"⟩
abbrev cX2_makeNode : ByteArray := prog_4_method_5_code
def yX2_makeNode : MethodName := ⟨RX2, "makeNode", "()V"⟩
abbrev cX2_chooseWord : ByteArray := prog_4_method_6_code
def yX2_chooseWord : MethodName := ⟨RX2, "chooseWord", "(I)I"⟩
abbrev cX2_splitWord : ByteArray := prog_4_method_7_code
def yX2_splitWord : MethodName := ⟨RX2, "splitWord", "(IIIJ)J"⟩
abbrev cX2_fillWord : ByteArray := prog_4_method_8_code
def yX2_fillWord : MethodName := ⟨RX2, "fillWord", "(IIJ)V"⟩
def RX3 : String := "MixfixBench$Lexer"
def TX3 : u_T := fun k => match k with
  | 0 => ("MixfixBench$Lexer", "tape", "LMixfixBench$Tape;", true)
  | 1 => ("MixfixBench$Lexer", "at", "I", false)
  | 2 => ("MixfixBench$Lexer", "count", "I", false)
  | 3 => ("MixfixBench$Lexer", "sorts", "[I", true)
  | 4 => ("MixfixBench$Lexer", "places", "[I", true)
  | 5 => ("MixfixBench$Lexer", "contents", "[J", true)
  | _ => ("MixfixBench$Lexer", "current", "I", false)
def tyX3 : Nat → FieldType := fun k => match k with
  | 0 => .object "MixfixBench$Tape"
  | 1 => .int
  | 2 => .int
  | 3 => .array .int
  | 4 => .array .int
  | 5 => .array .long
  | _ => .int
theorem nmX3 : ∀ a, a < 7 → ∀ b, b < 7 → a ≠ b → (TX3 a).2.1 ≠ (TX3 b).2.1 := by decide +kernel
theorem tyX3_ok : ∀ k, k < 7 → parseFieldDescriptor (TX3 k).2.2.1 = some (tyX3 k) := by decide +kernel
abbrev cX3_init : ByteArray := prog_5_method_1_code
def yX3_init : MethodName := ⟨RX3, "<init>", "(LMixfixBench$Tape;)V"⟩
abbrev cX3_sort : ByteArray := prog_5_method_2_code
def yX3_sort : MethodName := ⟨RX3, "sort", "()I"⟩
abbrev cX3_place : ByteArray := prog_5_method_3_code
def yX3_place : MethodName := ⟨RX3, "place", "()I"⟩
abbrev cX3_content : ByteArray := prog_5_method_4_code
def yX3_content : MethodName := ⟨RX3, "content", "()J"⟩
abbrev cX3_isKeyword : ByteArray := prog_5_method_5_code
def yX3_isKeyword : MethodName := ⟨RX3, "isKeyword", "(J)Z"⟩
abbrev cX3_advance : ByteArray := prog_5_method_6_code
def yX3_advance : MethodName := ⟨RX3, "advance", "()V"⟩
abbrev cX3_start : ByteArray := prog_5_method_7_code
def yX3_start : MethodName := ⟨RX3, "start", "()V"⟩
abbrev cX3_takeToken : ByteArray := prog_5_method_8_code
def yX3_takeToken : MethodName := ⟨RX3, "takeToken", "(I)I"⟩
abbrev cX3_takeName : ByteArray := prog_5_method_9_code
def yX3_takeName : MethodName := ⟨RX3, "takeName", "()I"⟩
abbrev cX3_takeNumber : ByteArray := prog_5_method_10_code
def yX3_takeNumber : MethodName := ⟨RX3, "takeNumber", "()I"⟩
abbrev cX3_takePart : ByteArray := prog_5_method_11_code
def yX3_takePart : MethodName := ⟨RX3, "takePart", "()I"⟩
abbrev cX3_takeSign : ByteArray := prog_5_method_12_code
def yX3_takeSign : MethodName := ⟨RX3, "takeSign", "(I)I"⟩
abbrev cX3_isReserved : ByteArray := prog_5_method_13_code
def yX3_isReserved : MethodName := ⟨RX3, "isReserved", "(J)Z"⟩
abbrev cX3_isLetter : ByteArray := prog_5_method_14_code
def yX3_isLetter : MethodName := ⟨RX3, "isLetter", "(I)Z"⟩
abbrev cX3_isLetterOrDigit : ByteArray := prog_5_method_15_code
def yX3_isLetterOrDigit : MethodName := ⟨RX3, "isLetterOrDigit", "(I)Z"⟩
abbrev cX3_isPartByte : ByteArray := prog_5_method_16_code
def yX3_isPartByte : MethodName := ⟨RX3, "isPartByte", "(I)Z"⟩
abbrev cX3_isSign : ByteArray := prog_5_method_17_code
def yX3_isSign : MethodName := ⟨RX3, "isSign", "(I)Z"⟩
def RX4 : String := "MixfixBench$Parser"
def TX4 : u_T := fun k => match k with
  | 0 => ("MixfixBench$Parser", "lexer", "LMixfixBench$Lexer;", true)
  | 1 => ("MixfixBench$Parser", "book", "LMixfixBench$Book;", false)
  | 2 => ("MixfixBench$Parser", "fault", "I", false)
  | _ => ("MixfixBench$Parser", "faultPlace", "I", false)
def tyX4 : Nat → FieldType := fun k => match k with
  | 0 => .object "MixfixBench$Lexer"
  | 1 => .object "MixfixBench$Book"
  | 2 => .int
  | _ => .int
theorem nmX4 : ∀ a, a < 4 → ∀ b, b < 4 → a ≠ b → (TX4 a).2.1 ≠ (TX4 b).2.1 := by decide +kernel
theorem tyX4_ok : ∀ k, k < 4 → parseFieldDescriptor (TX4 k).2.2.1 = some (tyX4 k) := by decide +kernel
abbrev cX4_init : ByteArray := prog_6_method_1_code
def yX4_init : MethodName := ⟨RX4, "<init>", "(LMixfixBench$Tape;LMixfixBench$Book;)V"⟩
abbrev cX4_parse : ByteArray := prog_6_method_2_code
def yX4_parse : MethodName := ⟨RX4, "parse", "(LMixfixBench$Book;)Z"⟩
abbrev cX4_blame : ByteArray := prog_6_method_3_code
def yX4_blame : MethodName := ⟨RX4, "blame", "(II)V"⟩
abbrev cX4_refuse : ByteArray := prog_6_method_4_code
def yX4_refuse : MethodName := ⟨RX4, "refuse", "()V"⟩
abbrev cX4_pass : ByteArray := prog_6_method_5_code
def yX4_pass : MethodName := ⟨RX4, "pass", "(I)Z"⟩
abbrev cX4_parseRank : ByteArray := prog_6_method_6_code
def yX4_parseRank : MethodName := ⟨RX4, "parseRank", "()V"⟩
abbrev cX4_parseTighter : ByteArray := prog_6_method_7_code
def yX4_parseTighter : MethodName := ⟨RX4, "parseTighter", "()V"⟩
abbrev cX4_parseKind : ByteArray := prog_6_method_8_code
def yX4_parseKind : MethodName := ⟨RX4, "parseKind", "()V"⟩
abbrev cX4_passRank : ByteArray := prog_6_method_9_code
def yX4_passRank : MethodName := ⟨RX4, "passRank", "()I"⟩
abbrev cX4_passKind : ByteArray := prog_6_method_10_code
def yX4_passKind : MethodName := ⟨RX4, "passKind", "()I"⟩
abbrev cX4_passName : ByteArray := prog_6_method_11_code
def yX4_passName : MethodName := ⟨RX4, "passName", "(I)I"⟩
abbrev cX4_parseWord : ByteArray := prog_6_method_12_code
def yX4_parseWord : MethodName := ⟨RX4, "parseWord", "()V"⟩
abbrev cX4_parseLean : ByteArray := prog_6_method_13_code
def yX4_parseLean : MethodName := ⟨RX4, "parseLean", "(LMixfixBench$Word;)V"⟩
abbrev cX4_parseElements : ByteArray := prog_6_method_14_code
def yX4_parseElements : MethodName := ⟨RX4, "parseElements", "(LMixfixBench$Word;)Z"⟩
abbrev cX4_parseSteps : ByteArray := prog_6_method_15_code
def yX4_parseSteps : MethodName := ⟨RX4, "parseSteps", "(LMixfixBench$Word;)Z"⟩
abbrev cX4_parseStep : ByteArray := prog_6_method_16_code
def yX4_parseStep : MethodName := ⟨RX4, "parseStep", "(LMixfixBench$Word;I)I"⟩
abbrev cX4_isNumber : ByteArray := prog_6_method_17_code
def yX4_isNumber : MethodName := ⟨RX4, "isNumber", "()Z"⟩
abbrev cX4_isOperation : ByteArray := prog_6_method_18_code
def yX4_isOperation : MethodName := ⟨RX4, "isOperation", "(I)Z"⟩
def RX5 : String := "MixfixBench$Reading"
def TX5 : u_T := fun k => match k with
  | 0 => ("MixfixBench$Reading", "count", "I", false)
  | 1 => ("MixfixBench$Reading", "word", "[I", true)
  | 2 => ("MixfixBench$Reading", "first", "[I", true)
  | 3 => ("MixfixBench$Reading", "length", "[I", true)
  | 4 => ("MixfixBench$Reading", "parent", "[I", true)
  | 5 => ("MixfixBench$Reading", "hole", "[I", true)
  | _ => ("MixfixBench$Reading", "children", "[I", true)
def tyX5 : Nat → FieldType := fun k => match k with
  | 0 => .int
  | 1 => .array .int
  | 2 => .array .int
  | 3 => .array .int
  | 4 => .array .int
  | 5 => .array .int
  | _ => .array .int
theorem nmX5 : ∀ a, a < 7 → ∀ b, b < 7 → a ≠ b → (TX5 a).2.1 ≠ (TX5 b).2.1 := by decide +kernel
theorem tyX5_ok : ∀ k, k < 7 → parseFieldDescriptor (TX5 k).2.2.1 = some (tyX5 k) := by decide +kernel
abbrev cX5_init : ByteArray := prog_7_method_1_code
def yX5_init : MethodName := ⟨RX5, "<init>", "()V"⟩
abbrev cX5_clear : ByteArray := prog_7_method_2_code
def yX5_clear : MethodName := ⟨RX5, "clear", "()V"⟩
abbrev cX5_add : ByteArray := prog_7_method_3_code
def yX5_add : MethodName := ⟨RX5, "add", "(IIIII)I"⟩
abbrev cX5_childOf : ByteArray := prog_7_method_4_code
def yX5_childOf : MethodName := ⟨RX5, "childOf", "(II)I"⟩
def RX6 : String := "MixfixBench$Sentence"
def TX6 : u_T := fun k => match k with
  | 0 => ("MixfixBench$Sentence", "count", "I", false)
  | 1 => ("MixfixBench$Sentence", "texts", "[J", true)
  | _ => ("MixfixBench$Sentence", "draft", "[J", true)
def tyX6 : Nat → FieldType := fun k => match k with
  | 0 => .int
  | 1 => .array .long
  | _ => .array .long
theorem nmX6 : ∀ a, a < 3 → ∀ b, b < 3 → a ≠ b → (TX6 a).2.1 ≠ (TX6 b).2.1 := by decide +kernel
theorem tyX6_ok : ∀ k, k < 3 → parseFieldDescriptor (TX6 k).2.2.1 = some (tyX6 k) := by decide +kernel
abbrev cX6_init : ByteArray := prog_8_method_1_code
def yX6_init : MethodName := ⟨RX6, "<init>", "()V"⟩
abbrev cX6_readFrom : ByteArray := prog_8_method_2_code
def yX6_readFrom : MethodName := ⟨RX6, "readFrom", "(LMixfixBench$Tape;)Z"⟩
abbrev cX6_isNumber : ByteArray := prog_8_method_3_code
def yX6_isNumber : MethodName := ⟨RX6, "isNumber", "(I)Z"⟩
abbrev cX6_numberAt : ByteArray := prog_8_method_4_code
def yX6_numberAt : MethodName := ⟨RX6, "numberAt", "(I)I"⟩
abbrev cX6_isBracketed : ByteArray := prog_8_method_5_code
def yX6_isBracketed : MethodName := ⟨RX6, "isBracketed", "(II)Z"⟩
def RX7 : String := "MixfixBench$Tape"
def TX7 : u_T := fun k => match k with
  | 0 => ("MixfixBench$Tape", "bytes", "[B", true)
  | _ => ("MixfixBench$Tape", "length", "I", false)
def tyX7 : Nat → FieldType := fun k => match k with
  | 0 => .array .byte
  | _ => .int
theorem nmX7 : ∀ a, a < 2 → ∀ b, b < 2 → a ≠ b → (TX7 a).2.1 ≠ (TX7 b).2.1 := by decide +kernel
theorem tyX7_ok : ∀ k, k < 2 → parseFieldDescriptor (TX7 k).2.2.1 = some (tyX7 k) := by decide +kernel
abbrev cX7_init : ByteArray := prog_9_method_1_code
def yX7_init : MethodName := ⟨RX7, "<init>", "()V"⟩
abbrev cX7_append : ByteArray := prog_9_method_2_code
def yX7_append : MethodName := ⟨RX7, "append", "(I)V"⟩
abbrev cX7_byteAt : ByteArray := prog_9_method_3_code
def yX7_byteAt : MethodName := ⟨RX7, "byteAt", "(I)I"⟩
def RX8 : String := "MixfixBench$Word"
def TX8 : u_T := fun k => match k with
  | 0 => ("MixfixBench$Word", "rank", "I", false)
  | 1 => ("MixfixBench$Word", "lean", "I", false)
  | 2 => ("MixfixBench$Word", "kind", "I", false)
  | 3 => ("MixfixBench$Word", "size", "I", false)
  | 4 => ("MixfixBench$Word", "holes", "I", false)
  | 5 => ("MixfixBench$Word", "steps", "I", false)
  | 6 => ("MixfixBench$Word", "bound", "Z", false)
  | 7 => ("MixfixBench$Word", "value", "I", false)
  | 8 => ("MixfixBench$Word", "parts", "[J", true)
  | 9 => ("MixfixBench$Word", "holeAt", "[I", true)
  | 10 => ("MixfixBench$Word", "holeKinds", "[I", true)
  | 11 => ("MixfixBench$Word", "takenWords", "[I", true)
  | 12 => ("MixfixBench$Word", "takenKinds", "[I", true)
  | 13 => ("MixfixBench$Word", "stepSigns", "[I", true)
  | _ => ("MixfixBench$Word", "stepValues", "[I", true)
def tyX8 : Nat → FieldType := fun k => match k with
  | 0 => .int
  | 1 => .int
  | 2 => .int
  | 3 => .int
  | 4 => .int
  | 5 => .int
  | 6 => .boolean
  | 7 => .int
  | 8 => .array .long
  | 9 => .array .int
  | 10 => .array .int
  | 11 => .array .int
  | 12 => .array .int
  | 13 => .array .int
  | _ => .array .int
theorem nmX8 : ∀ a, a < 15 → ∀ b, b < 15 → a ≠ b → (TX8 a).2.1 ≠ (TX8 b).2.1 := by decide +kernel
theorem tyX8_ok : ∀ k, k < 15 → parseFieldDescriptor (TX8 k).2.2.1 = some (tyX8 k) := by decide +kernel
abbrev cX8_init : ByteArray := prog_10_method_1_code
def yX8_init : MethodName := ⟨RX8, "<init>", "()V"⟩
abbrev cX8_clear : ByteArray := prog_10_method_2_code
def yX8_clear : MethodName := ⟨RX8, "clear", "(I)V"⟩
abbrev cX8_addPart : ByteArray := prog_10_method_3_code
def yX8_addPart : MethodName := ⟨RX8, "addPart", "(J)V"⟩
abbrev cX8_mayTakeHole : ByteArray := prog_10_method_4_code
def yX8_mayTakeHole : MethodName := ⟨RX8, "mayTakeHole", "()Z"⟩
abbrev cX8_addHole : ByteArray := prog_10_method_5_code
def yX8_addHole : MethodName := ⟨RX8, "addHole", "(I)V"⟩
abbrev cX8_addStep : ByteArray := prog_10_method_6_code
def yX8_addStep : MethodName := ⟨RX8, "addStep", "(II)V"⟩
abbrev cX8_isHole : ByteArray := prog_10_method_7_code
def yX8_isHole : MethodName := ⟨RX8, "isHole", "(I)Z"⟩
abbrev cX8_ends : ByteArray := prog_10_method_8_code
def yX8_ends : MethodName := ⟨RX8, "ends", "()I"⟩
abbrev cX8_isClosed : ByteArray := prog_10_method_9_code
def yX8_isClosed : MethodName := ⟨RX8, "isClosed", "()Z"⟩
abbrev cX8_hasPart : ByteArray := prog_10_method_10_code
def yX8_hasPart : MethodName := ⟨RX8, "hasPart", "(J)Z"⟩
def RX9 : String := "MixfixBench$Worker"
def TX9 : u_T := fun k => match k with
  | 0 => ("MixfixBench$Worker", "sentence", "LMixfixBench$Sentence;", true)
  | 1 => ("MixfixBench$Worker", "reading", "LMixfixBench$Reading;", true)
  | 2 => ("MixfixBench$Worker", "result", "I", false)
  | 3 => ("MixfixBench$Worker", "endedAt", "I", false)
  | 4 => ("MixfixBench$Worker", "values", "[I", true)
  | 5 => ("MixfixBench$Worker", "pile", "[I", true)
  | _ => ("MixfixBench$Worker", "height", "I", false)
def tyX9 : Nat → FieldType := fun k => match k with
  | 0 => .object "MixfixBench$Sentence"
  | 1 => .object "MixfixBench$Reading"
  | 2 => .int
  | 3 => .int
  | 4 => .array .int
  | 5 => .array .int
  | _ => .int
theorem nmX9 : ∀ a, a < 7 → ∀ b, b < 7 → a ≠ b → (TX9 a).2.1 ≠ (TX9 b).2.1 := by decide +kernel
theorem tyX9_ok : ∀ k, k < 7 → parseFieldDescriptor (TX9 k).2.2.1 = some (tyX9 k) := by decide +kernel
abbrev cX9_init : ByteArray := prog_11_method_1_code
def yX9_init : MethodName := ⟨RX9, "<init>", "(LMixfixBench$Sentence;LMixfixBench$Reading;)V"⟩
abbrev cX9_forget : ByteArray := prog_11_method_2_code
def yX9_forget : MethodName := ⟨RX9, "forget", "()V"⟩
abbrev cX9_run : ByteArray := prog_11_method_3_code
def yX9_run : MethodName := ⟨RX9, "run", "(LMixfixBench$Book;)I"⟩
abbrev cX9_workNode : ByteArray := prog_11_method_4_code
def yX9_workNode : MethodName := ⟨RX9, "workNode", "(LMixfixBench$Book;I)I"⟩
abbrev cX9_runSteps : ByteArray := prog_11_method_5_code
def yX9_runSteps : MethodName := ⟨RX9, "runSteps", "(LMixfixBench$Word;I)Z"⟩
abbrev cX9_push : ByteArray := prog_11_method_6_code
def yX9_push : MethodName := ⟨RX9, "push", "(I)V"⟩
abbrev cX9_operate : ByteArray := prog_11_method_7_code
def yX9_operate : MethodName := ⟨RX9, "operate", "(I)Z"⟩
abbrev cX9_outcome : ByteArray := prog_11_method_8_code
def yX9_outcome : MethodName := ⟨RX9, "outcome", "(III)I"⟩
def RX10 : String := "MixfixBench"
def TX10 : u_T := fun k => match k with
  | 0 => ("MixfixBench", "tape", "LMixfixBench$Tape;", true)
  | 1 => ("MixfixBench", "inUse", "LMixfixBench$Book;", false)
  | 2 => ("MixfixBench", "spare", "LMixfixBench$Book;", false)
  | 3 => ("MixfixBench", "parser", "LMixfixBench$Parser;", true)
  | 4 => ("MixfixBench", "tokens", "LMixfixBench$Sentence;", true)
  | 5 => ("MixfixBench", "reading", "LMixfixBench$Reading;", true)
  | 6 => ("MixfixBench", "chart", "LMixfixBench$Chart;", true)
  | 7 => ("MixfixBench", "finder", "LMixfixBench$Finder;", true)
  | _ => ("MixfixBench", "worker", "LMixfixBench$Worker;", true)
def tyX10 : Nat → FieldType := fun k => match k with
  | 0 => .object "MixfixBench$Tape"
  | 1 => .object "MixfixBench$Book"
  | 2 => .object "MixfixBench$Book"
  | 3 => .object "MixfixBench$Parser"
  | 4 => .object "MixfixBench$Sentence"
  | 5 => .object "MixfixBench$Reading"
  | 6 => .object "MixfixBench$Chart"
  | 7 => .object "MixfixBench$Finder"
  | _ => .object "MixfixBench$Worker"
theorem nmX10 : ∀ a, a < 9 → ∀ b, b < 9 → a ≠ b → (TX10 a).2.1 ≠ (TX10 b).2.1 := by decide +kernel
theorem tyX10_ok : ∀ k, k < 9 → parseFieldDescriptor (TX10 k).2.2.1 = some (tyX10 k) := by decide +kernel
abbrev cX10_init : ByteArray := prog_1_method_1_code
def yX10_init : MethodName := ⟨RX10, "<init>", "()V"⟩
abbrev cX10_feed : ByteArray := prog_1_method_2_code
def yX10_feed : MethodName := ⟨RX10, "feed", "(IIIII)I"⟩
abbrev cX10_end : ByteArray := prog_1_method_3_code
def yX10_end : MethodName := ⟨RX10, "end", "(I)I"⟩
abbrev cX10_book : ByteArray := prog_1_method_4_code
def yX10_book : MethodName := ⟨RX10, "book", "()I"⟩
abbrev cX10_fault : ByteArray := prog_1_method_5_code
def yX10_fault : MethodName := ⟨RX10, "fault", "(I)I"⟩
abbrev cX10_about : ByteArray := prog_1_method_6_code
def yX10_about : MethodName := ⟨RX10, "about", "(I)I"⟩
abbrev cX10_word : ByteArray := prog_1_method_7_code
def yX10_word : MethodName := ⟨RX10, "word", "(II)I"⟩
abbrev cX10_tighter : ByteArray := prog_1_method_8_code
def yX10_tighter : MethodName := ⟨RX10, "tighter", "(II)I"⟩
abbrev cX10_under : ByteArray := prog_1_method_9_code
def yX10_under : MethodName := ⟨RX10, "under", "(II)I"⟩
abbrev cX10_sentence : ByteArray := prog_1_method_10_code
def yX10_sentence : MethodName := ⟨RX10, "sentence", "()I"⟩
abbrev cX10_count : ByteArray := prog_1_method_11_code
def yX10_count : MethodName := ⟨RX10, "count", "(II)J"⟩
abbrev cX10_quarrel : ByteArray := prog_1_method_12_code
def yX10_quarrel : MethodName := ⟨RX10, "quarrel", "()I"⟩
abbrev cX10_read : ByteArray := prog_1_method_13_code
def yX10_read : MethodName := ⟨RX10, "read", "(J)I"⟩
abbrev cX10_node : ByteArray := prog_1_method_14_code
def yX10_node : MethodName := ⟨RX10, "node", "(II)I"⟩
abbrev cX10_bind : ByteArray := prog_1_method_15_code
def yX10_bind : MethodName := ⟨RX10, "bind", "(II)Z"⟩
abbrev cX10_work : ByteArray := prog_1_method_16_code
def yX10_work : MethodName := ⟨RX10, "work", "()I"⟩
abbrev cX10_worked : ByteArray := prog_1_method_17_code
def yX10_worked : MethodName := ⟨RX10, "worked", "(I)I"⟩
abbrev cX10_sure : ByteArray := prog_1_method_18_code
def yX10_sure : MethodName := ⟨RX10, "sure", "()I"⟩
abbrev cX10_dropReading : ByteArray := prog_1_method_19_code
def yX10_dropReading : MethodName := ⟨RX10, "dropReading", "()V"⟩
abbrev cX10_hasBit : ByteArray := prog_1_method_20_code
def yX10_hasBit : MethodName := ⟨RX10, "hasBit", "(II)Z"⟩
abbrev cX10_isDigit : ByteArray := prog_1_method_21_code
def yX10_isDigit : MethodName := ⟨RX10, "isDigit", "(I)Z"⟩
abbrev cX10_isBlank : ByteArray := prog_1_method_22_code
def yX10_isBlank : MethodName := ⟨RX10, "isBlank", "(I)Z"⟩
abbrev cX10_plus : ByteArray := prog_1_method_23_code
def yX10_plus : MethodName := ⟨RX10, "plus", "(JJ)J"⟩
abbrev cX10_times : ByteArray := prog_1_method_24_code
def yX10_times : MethodName := ⟨RX10, "times", "(JJ)J"⟩
def RX11 : String := "MixfixBenchModel"
def TX11 : u_T := fun k => match k with
  | 0 => ("MixfixBenchModel", "tape", "[B", true)
  | 1 => ("MixfixBenchModel", "taped", "I", false)
  | 2 => ("MixfixBenchModel", "text", "[B", true)
  | 3 => ("MixfixBenchModel", "size", "I", false)
  | 4 => ("MixfixBenchModel", "bank", "I", false)
  | 5 => ("MixfixBenchModel", "faultKind", "I", false)
  | 6 => ("MixfixBenchModel", "faultPlace", "I", false)
  | 7 => ("MixfixBenchModel", "at", "I", false)
  | 8 => ("MixfixBenchModel", "end", "I", false)
  | 9 => ("MixfixBenchModel", "token", "I", false)
  | 10 => ("MixfixBenchModel", "number", "I", false)
  | 11 => ("MixfixBenchModel", "digits", "I", false)
  | 12 => ("MixfixBenchModel", "name", "J", false)
  | 13 => ("MixfixBenchModel", "rName", "[J", true)
  | 14 => ("MixfixBenchModel", "kName", "[J", true)
  | 15 => ("MixfixBenchModel", "isTighter", "[Z", true)
  | 16 => ("MixfixBenchModel", "kUp", "[I", true)
  | 17 => ("MixfixBenchModel", "wRank", "[I", true)
  | 18 => ("MixfixBenchModel", "wLean", "[I", true)
  | 19 => ("MixfixBenchModel", "wKind", "[I", true)
  | 20 => ("MixfixBenchModel", "wMany", "[I", true)
  | 21 => ("MixfixBenchModel", "wHoles", "[I", true)
  | 22 => ("MixfixBenchModel", "wSteps", "[I", true)
  | 23 => ("MixfixBenchModel", "sOp", "[I", true)
  | 24 => ("MixfixBenchModel", "sNumber", "[I", true)
  | 25 => ("MixfixBenchModel", "ePart", "[J", true)
  | 26 => ("MixfixBenchModel", "eHole", "[I", true)
  | 27 => ("MixfixBenchModel", "hKind", "[I", true)
  | 28 => ("MixfixBenchModel", "ranks", "I", false)
  | 29 => ("MixfixBenchModel", "kinds", "I", false)
  | 30 => ("MixfixBenchModel", "words", "I", false)
  | 31 => ("MixfixBenchModel", "bRanks", "I", false)
  | 32 => ("MixfixBenchModel", "bKinds", "I", false)
  | 33 => ("MixfixBenchModel", "bWords", "I", false)
  | 34 => ("MixfixBenchModel", "tName", "[J", true)
  | 35 => ("MixfixBenchModel", "newName", "[J", true)
  | 36 => ("MixfixBenchModel", "tNumber", "[I", true)
  | 37 => ("MixfixBenchModel", "newNumber", "[I", true)
  | 38 => ("MixfixBenchModel", "tokens", "I", false)
  | 39 => ("MixfixBenchModel", "ofWord", "[J", true)
  | 40 => ("MixfixBenchModel", "ofBrackets", "[J", true)
  | 41 => ("MixfixBenchModel", "ofHole", "[J", true)
  | 42 => ("MixfixBenchModel", "rowNow", "[J", true)
  | 43 => ("MixfixBenchModel", "rowNext", "[J", true)
  | 44 => ("MixfixBenchModel", "nWord", "[I", true)
  | 45 => ("MixfixBenchModel", "nFirst", "[I", true)
  | 46 => ("MixfixBenchModel", "nMany", "[I", true)
  | 47 => ("MixfixBenchModel", "nUp", "[I", true)
  | 48 => ("MixfixBenchModel", "nHole", "[I", true)
  | 49 => ("MixfixBenchModel", "nodes", "I", false)
  | 50 => ("MixfixBenchModel", "pFrom", "[I", true)
  | 51 => ("MixfixBenchModel", "pTo", "[I", true)
  | 52 => ("MixfixBenchModel", "pNeed", "[I", true)
  | 53 => ("MixfixBenchModel", "pOf", "[I", true)
  | 54 => ("MixfixBenchModel", "pEnd", "[I", true)
  | 55 => ("MixfixBenchModel", "pUp", "[I", true)
  | 56 => ("MixfixBenchModel", "pHole", "[I", true)
  | 57 => ("MixfixBenchModel", "pK", "[J", true)
  | 58 => ("MixfixBenchModel", "piled", "I", false)
  | 59 => ("MixfixBenchModel", "cFrom", "[I", true)
  | 60 => ("MixfixBenchModel", "cTo", "[I", true)
  | 61 => ("MixfixBenchModel", "cWays", "[J", true)
  | 62 => ("MixfixBenchModel", "rest", "[J", true)
  | 63 => ("MixfixBenchModel", "isBound", "[Z", true)
  | 64 => ("MixfixBenchModel", "bound", "[I", true)
  | 65 => ("MixfixBenchModel", "nValue", "[I", true)
  | 66 => ("MixfixBenchModel", "numbers", "[I", true)
  | 67 => ("MixfixBenchModel", "holes", "[I", true)
  | 68 => ("MixfixBenchModel", "isWorked", "Z", false)
  | 69 => ("MixfixBenchModel", "workedAt", "I", false)
  | 70 => ("MixfixBenchModel", "worked", "I", false)
  | _ => ("MixfixBenchModel", "through", "[Z", true)
def tyX11 : Nat → FieldType := fun k => match k with
  | 0 => .array .byte
  | 1 => .int
  | 2 => .array .byte
  | 3 => .int
  | 4 => .int
  | 5 => .int
  | 6 => .int
  | 7 => .int
  | 8 => .int
  | 9 => .int
  | 10 => .int
  | 11 => .int
  | 12 => .long
  | 13 => .array .long
  | 14 => .array .long
  | 15 => .array .boolean
  | 16 => .array .int
  | 17 => .array .int
  | 18 => .array .int
  | 19 => .array .int
  | 20 => .array .int
  | 21 => .array .int
  | 22 => .array .int
  | 23 => .array .int
  | 24 => .array .int
  | 25 => .array .long
  | 26 => .array .int
  | 27 => .array .int
  | 28 => .int
  | 29 => .int
  | 30 => .int
  | 31 => .int
  | 32 => .int
  | 33 => .int
  | 34 => .array .long
  | 35 => .array .long
  | 36 => .array .int
  | 37 => .array .int
  | 38 => .int
  | 39 => .array .long
  | 40 => .array .long
  | 41 => .array .long
  | 42 => .array .long
  | 43 => .array .long
  | 44 => .array .int
  | 45 => .array .int
  | 46 => .array .int
  | 47 => .array .int
  | 48 => .array .int
  | 49 => .int
  | 50 => .array .int
  | 51 => .array .int
  | 52 => .array .int
  | 53 => .array .int
  | 54 => .array .int
  | 55 => .array .int
  | 56 => .array .int
  | 57 => .array .long
  | 58 => .int
  | 59 => .array .int
  | 60 => .array .int
  | 61 => .array .long
  | 62 => .array .long
  | 63 => .array .boolean
  | 64 => .array .int
  | 65 => .array .int
  | 66 => .array .int
  | 67 => .array .int
  | 68 => .boolean
  | 69 => .int
  | 70 => .int
  | _ => .array .boolean
theorem nmX11 : ∀ a, a < 72 → ∀ b, b < 72 → a ≠ b → (TX11 a).2.1 ≠ (TX11 b).2.1 := by decide +kernel
theorem tyX11_ok : ∀ k, k < 72 → parseFieldDescriptor (TX11 k).2.2.1 = some (tyX11 k) := by decide +kernel
abbrev cX11_sign : ByteArray := prog_13_method_1_code
def yX11_sign : MethodName := ⟨RX11, "sign", "(I)I"⟩
abbrev cX11_isLetter : ByteArray := prog_13_method_2_code
def yX11_isLetter : MethodName := ⟨RX11, "isLetter", "(I)Z"⟩
abbrev cX11_isDigit : ByteArray := prog_13_method_3_code
def yX11_isDigit : MethodName := ⟨RX11, "isDigit", "(I)Z"⟩
abbrev cX11_fails : ByteArray := prog_13_method_4_code
def yX11_fails : MethodName := ⟨RX11, "fails", "(II)V"⟩
abbrev cX11_isGood : ByteArray := prog_13_method_5_code
def yX11_isGood : MethodName := ⟨RX11, "isGood", "()Z"⟩
abbrev cX11_next : ByteArray := prog_13_method_6_code
def yX11_next : MethodName := ⟨RX11, "next", "()V"⟩
abbrev cX11_pack : ByteArray := prog_13_method_7_code
def yX11_pack : MethodName := ⟨RX11, "pack", "(II)V"⟩
abbrev cX11_nextPart : ByteArray := prog_13_method_8_code
def yX11_nextPart : MethodName := ⟨RX11, "nextPart", "()V"⟩
abbrev cX11_isPartSign : ByteArray := prog_13_method_9_code
def yX11_isPartSign : MethodName := ⟨RX11, "isPartSign", "(I)Z"⟩
abbrev cX11_is : ByteArray := prog_13_method_10_code
def yX11_is : MethodName := ⟨RX11, "is", "(I)Z"⟩
abbrev cX11_isWord : ByteArray := prog_13_method_11_code
def yX11_isWord : MethodName := ⟨RX11, "isWord", "(J)Z"⟩
abbrev cX11_wrong : ByteArray := prog_13_method_12_code
def yX11_wrong : MethodName := ⟨RX11, "wrong", "()V"⟩
abbrev cX11_must : ByteArray := prog_13_method_13_code
def yX11_must : MethodName := ⟨RX11, "must", "(I)V"⟩
abbrev cX11_rankOf : ByteArray := prog_13_method_14_code
def yX11_rankOf : MethodName := ⟨RX11, "rankOf", "(J)I"⟩
abbrev cX11_kindOf : ByteArray := prog_13_method_15_code
def yX11_kindOf : MethodName := ⟨RX11, "kindOf", "(J)I"⟩
abbrev cX11_aRank : ByteArray := prog_13_method_16_code
def yX11_aRank : MethodName := ⟨RX11, "aRank", "()I"⟩
abbrev cX11_aKind : ByteArray := prog_13_method_17_code
def yX11_aKind : MethodName := ⟨RX11, "aKind", "()I"⟩
abbrev cX11_readRank : ByteArray := prog_13_method_18_code
def yX11_readRank : MethodName := ⟨RX11, "readRank", "()V"⟩
abbrev cX11_tight : ByteArray := prog_13_method_19_code
def yX11_tight : MethodName := ⟨RX11, "tight", "(II)Z"⟩
abbrev cX11_readTighter : ByteArray := prog_13_method_20_code
def yX11_readTighter : MethodName := ⟨RX11, "readTighter", "()V"⟩
abbrev cX11_readKind : ByteArray := prog_13_method_21_code
def yX11_readKind : MethodName := ⟨RX11, "readKind", "()V"⟩
abbrev cX11_readWord : ByteArray := prog_13_method_22_code
def yX11_readWord : MethodName := ⟨RX11, "readWord", "()V"⟩
abbrev cX11_readElement : ByteArray := prog_13_method_23_code
def yX11_readElement : MethodName := ⟨RX11, "readElement", "(I)V"⟩
abbrev cX11_readSteps : ByteArray := prog_13_method_24_code
def yX11_readSteps : MethodName := ⟨RX11, "readSteps", "(I)V"⟩
abbrev cX11_ends : ByteArray := prog_13_method_25_code
def yX11_ends : MethodName := ⟨RX11, "ends", "(I)I"⟩
abbrev cX11_init : ByteArray := prog_13_method_26_code
def yX11_init : MethodName := ⟨RX11, "<init>", "()V"⟩
abbrev cX11_book : ByteArray := prog_13_method_27_code
def yX11_book : MethodName := ⟨RX11, "book", "()I"⟩
abbrev cX11_fault : ByteArray := prog_13_method_28_code
def yX11_fault : MethodName := ⟨RX11, "fault", "(I)I"⟩
abbrev cX11_about : ByteArray := prog_13_method_29_code
def yX11_about : MethodName := ⟨RX11, "about", "(I)I"⟩
abbrev cX11_isWordNumber : ByteArray := prog_13_method_30_code
def yX11_isWordNumber : MethodName := ⟨RX11, "isWordNumber", "(I)Z"⟩
abbrev cX11_word : ByteArray := prog_13_method_31_code
def yX11_word : MethodName := ⟨RX11, "word", "(II)I"⟩
abbrev cX11_tighter : ByteArray := prog_13_method_32_code
def yX11_tighter : MethodName := ⟨RX11, "tighter", "(II)I"⟩
abbrev cX11_isUnder : ByteArray := prog_13_method_33_code
def yX11_isUnder : MethodName := ⟨RX11, "isUnder", "(II)Z"⟩
abbrev cX11_under : ByteArray := prog_13_method_34_code
def yX11_under : MethodName := ⟨RX11, "under", "(II)I"⟩
abbrev cX11_sentence : ByteArray := prog_13_method_35_code
def yX11_sentence : MethodName := ⟨RX11, "sentence", "()I"⟩
abbrev cX11_sum : ByteArray := prog_13_method_36_code
def yX11_sum : MethodName := ⟨RX11, "sum", "(JJ)J"⟩
abbrev cX11_product : ByteArray := prog_13_method_37_code
def yX11_product : MethodName := ⟨RX11, "product", "(JJ)J"⟩
abbrev cX11_stretch : ByteArray := prog_13_method_38_code
def yX11_stretch : MethodName := ⟨RX11, "stretch", "(II)I"⟩
abbrev cX11_numberKind : ByteArray := prog_13_method_39_code
def yX11_numberKind : MethodName := ⟨RX11, "numberKind", "()I"⟩
abbrev cX11_countAll : ByteArray := prog_13_method_40_code
def yX11_countAll : MethodName := ⟨RX11, "countAll", "()V"⟩
abbrev cX11_isNumber : ByteArray := prog_13_method_41_code
def yX11_isNumber : MethodName := ⟨RX11, "isNumber", "(II)Z"⟩
abbrev cX11_kindWays : ByteArray := prog_13_method_42_code
def yX11_kindWays : MethodName := ⟨RX11, "kindWays", "(III)J"⟩
abbrev cX11_wordWays : ByteArray := prog_13_method_43_code
def yX11_wordWays : MethodName := ⟨RX11, "wordWays", "(III)J"⟩
abbrev cX11_letsRank : ByteArray := prog_13_method_44_code
def yX11_letsRank : MethodName := ⟨RX11, "letsRank", "(III)Z"⟩
abbrev cX11_endOf : ByteArray := prog_13_method_45_code
def yX11_endOf : MethodName := ⟨RX11, "endOf", "(II)I"⟩
abbrev cX11_holeWays : ByteArray := prog_13_method_46_code
def yX11_holeWays : MethodName := ⟨RX11, "holeWays", "(IIII)J"⟩
abbrev cX11_allWays : ByteArray := prog_13_method_47_code
def yX11_allWays : MethodName := ⟨RX11, "allWays", "(II)J"⟩
abbrev cX11_count : ByteArray := prog_13_method_48_code
def yX11_count : MethodName := ⟨RX11, "count", "(II)J"⟩
abbrev cX11_quarrel : ByteArray := prog_13_method_49_code
def yX11_quarrel : MethodName := ⟨RX11, "quarrel", "()I"⟩
abbrev cX11_pile : ByteArray := prog_13_method_50_code
def yX11_pile : MethodName := ⟨RX11, "pile", "(IIIIIJII)V"⟩
abbrev cX11_read : ByteArray := prog_13_method_51_code
def yX11_read : MethodName := ⟨RX11, "read", "(J)I"⟩
abbrev cX11_open : ByteArray := prog_13_method_52_code
def yX11_open : MethodName := ⟨RX11, "open", "(I)V"⟩
abbrev cX11_restWays : ByteArray := prog_13_method_53_code
def yX11_restWays : MethodName := ⟨RX11, "restWays", "(II)V"⟩
abbrev cX11_cut : ByteArray := prog_13_method_54_code
def yX11_cut : MethodName := ⟨RX11, "cut", "(IIIJI)V"⟩
abbrev cX11_node : ByteArray := prog_13_method_55_code
def yX11_node : MethodName := ⟨RX11, "node", "(II)I"⟩
abbrev cX11_bind : ByteArray := prog_13_method_56_code
def yX11_bind : MethodName := ⟨RX11, "bind", "(II)Z"⟩
abbrev cX11_behind : ByteArray := prog_13_method_57_code
def yX11_behind : MethodName := ⟨RX11, "behind", "(I)I"⟩
abbrev cX11_work : ByteArray := prog_13_method_58_code
def yX11_work : MethodName := ⟨RX11, "work", "()I"⟩
abbrev cX11_nextWithin : ByteArray := prog_13_method_59_code
def yX11_nextWithin : MethodName := ⟨RX11, "nextWithin", "(I)I"⟩
abbrev cX11_isThrough : ByteArray := prog_13_method_60_code
def yX11_isThrough : MethodName := ⟨RX11, "isThrough", "(I)Z"⟩
abbrev cX11_value : ByteArray := prog_13_method_61_code
def yX11_value : MethodName := ⟨RX11, "value", "(I)I"⟩
abbrev cX11_steps : ByteArray := prog_13_method_62_code
def yX11_steps : MethodName := ⟨RX11, "steps", "(II)I"⟩
abbrev cX11_worked : ByteArray := prog_13_method_63_code
def yX11_worked : MethodName := ⟨RX11, "worked", "(I)I"⟩
abbrev cX11_sure : ByteArray := prog_13_method_64_code
def yX11_sure : MethodName := ⟨RX11, "sure", "()I"⟩
abbrev cX11_isAgainst : ByteArray := prog_13_method_65_code
def yX11_isAgainst : MethodName := ⟨RX11, "isAgainst", "(II)Z"⟩
abbrev cX11_feed : ByteArray := prog_13_method_66_code
def yX11_feed : MethodName := ⟨RX11, "feed", "(IIIII)I"⟩
abbrev cX11_end : ByteArray := prog_13_method_67_code
def yX11_end : MethodName := ⟨RX11, "end", "(I)I"⟩
def RL : String := "MixfixBenchLaw"
abbrev cL_law : ByteArray := code
def X_cl : List vw_C := [(RX0, TX0, 8), (RX1, TX1, 8), (RX2, TX2, 13), (RX3, TX3, 7), (RX4, TX4, 4), (RX5, TX5, 7), (RX6, TX6, 3), (RX7, TX7, 2), (RX8, TX8, 15), (RX9, TX9, 7), (RX10, TX10, 9), (RX11, TX11, 72)]
def X_Rn : List String := [RX0, RX1, RX2, RX3, RX4, RX5, RX6, RX7, RX8, RX9, RX10, RX11, RL]
def X_R (o : Nat) : String := X_Rn.getD o ""
def X_ty (ci : Nat) : Nat → FieldType := match ci with
  | 0 => tyX0
  | 1 => tyX1
  | 2 => tyX2
  | 3 => tyX3
  | 4 => tyX4
  | 5 => tyX5
  | 6 => tyX6
  | 7 => tyX7
  | 8 => tyX8
  | 9 => tyX9
  | 10 => tyX10
  | _ => tyX11
/-- what a new object of each class holds -/
def X_df : List (List Value) := [[.int 0, .int 0, .int 0, .null, .null, .null, .null, .null],
  [.null, .null, .int 0, .null, .null, .null, .null, .null],
  [.null, .null, .null, .int 0, .null, .null, .null, .null, .null, .null, .null, .null, .null],
  [.null, .int 0, .int 0, .null, .null, .null, .int 0],
  [.null, .null, .int 0, .int 0],
  [.int 0, .null, .null, .null, .null, .null, .null],
  [.int 0, .null, .null],
  [.null, .int 0],
  [.int 0, .int 0, .int 0, .int 0, .int 0, .int 0, .int 0, .int 0, .null, .null, .null, .null, .null, .null, .null],
  [.null, .null, .int 0, .int 0, .null, .null, .int 0],
  [.null, .null, .null, .null, .null, .null, .null, .null, .null],
  [.null, .int 0, .null, .int 0, .int 0, .int 0, .int 0, .int 0, .int 0, .int 0, .int 0, .int 0, .long 0, .null, .null, .null, .null, .null, .null, .null, .null, .null, .null, .null, .null, .null, .null, .null, .int 0, .int 0, .int 0, .int 0, .int 0, .int 0, .null, .null, .null, .null, .int 0, .null, .null, .null, .null, .null, .null, .null, .null, .null, .null, .int 0, .null, .null, .null, .null, .null, .null, .null, .null, .int 0, .null, .null, .null, .null, .null, .null, .null, .null, .null, .int 0, .int 0, .int 0, .null]]
abbrev X_wci : Nat := 8
abbrev X_lawj : Nat := 203
/-- of each method: how many locals, how many parameters, its class, its type -/
def X_I : List (Nat × Nat × Nat × Option FieldType) := [(2, 0, 0, none),
  (1, 0, 0, none),
  (2, 1, 0, (some .boolean)),
  (2, 1, 0, (some .boolean)),
  (2, 1, 0, (some .boolean)),
  (3, 1, 0, (some .int)),
  (3, 1, 0, (some .int)),
  (5, 3, 0, (some .int)),
  (3, 1, 0, none),
  (4, 2, 0, none),
  (5, 2, 0, none),
  (3, 2, 0, (some .boolean)),
  (3, 2, 0, (some .boolean)),
  (1, 0, 0, (some .int)),
  (4, 1, 0, (some .int)),
  (4, 1, 0, (some .int)),
  (6, 0, 0, none),
  (10, 2, 0, (some .int)),
  (6, 2, 0, (some .boolean)),
  (3, 1, 0, (some .boolean)),
  (3, 2, 0, (some .boolean)),
  (3, 2, 1, none),
  (2, 1, 1, none),
  (3, 2, 1, (some .long)),
  (2, 2, 1, (some .int)),
  (3, 3, 1, (some .int)),
  (4, 3, 1, (some .long)),
  (5, 4, 1, (some .long)),
  (4, 3, 1, (some .long)),
  (6, 2, 1, (some .long)),
  (6, 2, 1, (some .long)),
  (3, 0, 1, none),
  (7, 2, 1, none),
  (7, 2, 1, none),
  (7, 2, 1, none),
  (5, 3, 1, none),
  (6, 3, 1, none),
  (12, 4, 1, (some .long)),
  (6, 4, 1, (some .long)),
  (4, 3, 2, none),
  (4, 1, 2, none),
  (5, 4, 2, none),
  (5, 3, 2, none),
  (9, 0, 2, none),
  (8, 1, 2, (some .int)),
  (19, 4, 2, (some .long)),
  (14, 3, 2, none),
  (2, 1, 3, none),
  (1, 0, 3, (some .int)),
  (1, 0, 3, (some .int)),
  (1, 0, 3, (some .long)),
  (3, 1, 3, (some .boolean)),
  (1, 0, 3, none),
  (2, 0, 3, none),
  (2, 1, 3, (some .int)),
  (3, 0, 3, (some .int)),
  (4, 0, 3, (some .int)),
  (5, 0, 3, (some .int)),
  (3, 1, 3, (some .int)),
  (2, 1, 3, (some .boolean)),
  (1, 1, 3, (some .boolean)),
  (1, 1, 3, (some .boolean)),
  (1, 1, 3, (some .boolean)),
  (1, 1, 3, (some .boolean)),
  (3, 2, 4, none),
  (3, 1, 4, (some .boolean)),
  (3, 2, 4, none),
  (1, 0, 4, none),
  (2, 1, 4, (some .boolean)),
  (1, 0, 4, none),
  (4, 0, 4, none),
  (4, 0, 4, none),
  (1, 0, 4, (some .int)),
  (1, 0, 4, (some .int)),
  (2, 1, 4, (some .int)),
  (4, 0, 4, none),
  (2, 1, 4, none),
  (8, 1, 4, (some .boolean)),
  (4, 1, 4, (some .boolean)),
  (9, 2, 4, (some .int)),
  (1, 0, 4, (some .boolean)),
  (1, 1, 4, (some .boolean)),
  (1, 0, 5, none),
  (1, 0, 5, none),
  (7, 5, 5, (some .int)),
  (3, 2, 5, (some .int)),
  (1, 0, 6, none),
  (7, 1, 6, (some .boolean)),
  (2, 1, 6, (some .boolean)),
  (5, 1, 6, (some .int)),
  (3, 2, 6, (some .boolean)),
  (1, 0, 7, none),
  (3, 1, 7, none),
  (2, 1, 7, (some .int)),
  (1, 0, 8, none),
  (2, 1, 8, none),
  (3, 1, 8, none),
  (1, 0, 8, (some .boolean)),
  (2, 1, 8, none),
  (3, 2, 8, none),
  (2, 1, 8, (some .boolean)),
  (1, 0, 8, (some .int)),
  (1, 0, 8, (some .boolean)),
  (4, 1, 8, (some .boolean)),
  (3, 2, 9, none),
  (1, 0, 9, none),
  (7, 1, 9, (some .int)),
  (5, 2, 9, (some .int)),
  (6, 2, 9, (some .boolean)),
  (2, 1, 9, none),
  (4, 1, 9, (some .boolean)),
  (3, 3, 9, (some .int)),
  (1, 0, 10, none),
  (6, 5, 10, (some .int)),
  (2, 1, 10, (some .int)),
  (3, 0, 10, (some .int)),
  (2, 1, 10, (some .int)),
  (2, 1, 10, (some .int)),
  (4, 2, 10, (some .int)),
  (3, 2, 10, (some .int)),
  (3, 2, 10, (some .int)),
  (2, 0, 10, (some .int)),
  (3, 2, 10, (some .long)),
  (5, 0, 10, (some .int)),
  (5, 1, 10, (some .int)),
  (3, 2, 10, (some .int)),
  (4, 2, 10, (some .boolean)),
  (1, 0, 10, (some .int)),
  (2, 1, 10, (some .int)),
  (3, 0, 10, (some .int)),
  (1, 0, 10, none),
  (2, 2, 10, (some .boolean)),
  (1, 1, 10, (some .boolean)),
  (1, 1, 10, (some .boolean)),
  (6, 2, 10, (some .long)),
  (4, 2, 10, (some .long)),
  (2, 1, 11, (some .int)),
  (1, 1, 11, (some .boolean)),
  (1, 1, 11, (some .boolean)),
  (3, 2, 11, none),
  (1, 0, 11, (some .boolean)),
  (3, 0, 11, none),
  (4, 2, 11, none),
  (3, 0, 11, none),
  (1, 1, 11, (some .boolean)),
  (2, 1, 11, (some .boolean)),
  (3, 1, 11, (some .boolean)),
  (1, 0, 11, none),
  (2, 1, 11, none),
  (4, 1, 11, (some .int)),
  (4, 1, 11, (some .int)),
  (2, 0, 11, (some .int)),
  (2, 0, 11, (some .int)),
  (2, 0, 11, none),
  (3, 2, 11, (some .boolean)),
  (6, 0, 11, none),
  (4, 0, 11, none),
  (4, 0, 11, none),
  (4, 1, 11, none),
  (7, 1, 11, none),
  (2, 1, 11, (some .int)),
  (1, 0, 11, none),
  (4, 0, 11, (some .int)),
  (2, 1, 11, (some .int)),
  (2, 1, 11, (some .int)),
  (2, 1, 11, (some .boolean)),
  (4, 2, 11, (some .int)),
  (3, 2, 11, (some .int)),
  (4, 2, 11, (some .boolean)),
  (3, 2, 11, (some .int)),
  (8, 0, 11, (some .int)),
  (4, 2, 11, (some .long)),
  (4, 2, 11, (some .long)),
  (2, 2, 11, (some .int)),
  (1, 0, 11, (some .int)),
  (6, 0, 11, none),
  (3, 2, 11, (some .boolean)),
  (8, 3, 11, (some .long)),
  (11, 3, 11, (some .long)),
  (6, 3, 11, (some .boolean)),
  (4, 2, 11, (some .int)),
  (11, 4, 11, (some .long)),
  (6, 2, 11, (some .long)),
  (5, 2, 11, (some .long)),
  (5, 0, 11, (some .int)),
  (10, 8, 11, none),
  (5, 1, 11, (some .int)),
  (16, 1, 11, none),
  (11, 2, 11, none),
  (21, 5, 11, none),
  (3, 2, 11, (some .int)),
  (3, 2, 11, (some .boolean)),
  (3, 1, 11, (some .int)),
  (5, 0, 11, (some .int)),
  (3, 1, 11, (some .int)),
  (2, 1, 11, (some .boolean)),
  (4, 1, 11, (some .int)),
  (9, 2, 11, (some .int)),
  (2, 1, 11, (some .int)),
  (3, 0, 11, (some .int)),
  (9, 2, 11, (some .boolean)),
  (8, 5, 11, (some .int)),
  (2, 1, 11, (some .int)),
  (4, 1, 12, (some .boolean))]
def X_nL (j : Nat) : Nat := match X_I[j]? with
  | some q => q.1
  | none => 0
def X_na (j : Nat) : Nat := match X_I[j]? with
  | some q => q.2.1
  | none => 0
def X_ci (j : Nat) : Nat := match X_I[j]? with
  | some q => q.2.2.1
  | none => 99
def X_rt (j : Nat) : Option FieldType := match X_I[j]? with
  | some q => q.2.2.2
  | none => none
/-- of each method: its class, its name, the place of its code, frames and locals below it, places of its words: initialized, instanceMethod or static, selects -/
def X_J : List (Nat × MethodName × Nat × Nat × Nat × Nat × Nat × Nat) := [(0, yX0_init, 125, 2, 40, 85, 124, 0),
  (0, yX0_clear, 223, 0, 0, 85, 221, 222),
  (0, yX0_hasRank, 808, 0, 0, 85, 806, 807),
  (0, yX0_hasKind, 683, 0, 0, 85, 681, 682),
  (0, yX0_hasWord, 799, 0, 0, 85, 797, 798),
  (0, yX0_rankNamed, 625, 1, 24, 85, 623, 624),
  (0, yX0_kindNamed, 670, 1, 24, 85, 668, 669),
  (0, yX0_indexOf, 628, 0, 0, 85, 627, 0),
  (0, yX0_addRank, 632, 0, 0, 85, 630, 631),
  (0, yX0_addKind, 679, 1, 21, 85, 677, 678),
  (0, yX0_setTighter, 660, 2, 43, 85, 658, 659),
  (0, yX0_isTighter, 653, 1, 21, 85, 651, 652),
  (0, yX0_isUnder, 758, 1, 21, 85, 756, 757),
  (0, yX0_numberKind, 884, 0, 0, 85, 882, 883),
  (0, yX0_kindsUnder, 754, 2, 43, 85, 752, 753),
  (0, yX0_wordsOfKinds, 762, 1, 21, 85, 760, 761),
  (0, yX0_settleHoles, 749, 4, 90, 85, 747, 748),
  (0, yX0_wordsFitting, 766, 3, 61, 85, 765, 20),
  (0, yX0_isAgainst, 1025, 3, 61, 85, 1023, 1024),
  (0, yX0_hasPartTwice, 1028, 1, 21, 85, 1027, 0),
  (0, yX0_shareAPart, 1032, 1, 23, 85, 1031, 0),
  (1, yX1_init, 375, 1, 20, 91, 374, 0),
  (1, yX1_startOver, 775, 0, 0, 91, 773, 774),
  (1, yX1_readingsOf, 912, 1, 21, 91, 910, 911),
  (1, yX1_rowOf, 843, 0, 0, 91, 842, 0),
  (1, yX1_tailOf, 855, 0, 0, 91, 854, 0),
  (1, yX1_wordReadings, 951, 1, 21, 91, 949, 950),
  (1, yX1_holeReadings, 859, 1, 21, 91, 857, 858),
  (1, yX1_plainReadings, 945, 2, 50, 91, 943, 944),
  (1, yX1_sumOfKinds, 894, 1, 25, 91, 893, 25),
  (1, yX1_sumOfWords, 900, 1, 25, 91, 899, 26),
  (1, yX1_fill, 836, 5, 128, 91, 834, 835),
  (1, yX1_fillStretch, 840, 4, 102, 91, 839, 22),
  (1, yX1_fillKinds, 871, 2, 50, 91, 870, 24),
  (1, yX1_fillHoles, 904, 2, 50, 91, 903, 27),
  (1, yX1_fillTails, 908, 3, 78, 91, 907, 28),
  (1, yX1_prepareTails, 959, 3, 78, 91, 957, 958),
  (1, yX1_ways, 847, 2, 47, 91, 846, 23),
  (1, yX1_tail, 852, 1, 22, 91, 850, 851),
  (2, yX2_init, 408, 1, 20, 92, 407, 0),
  (2, yX2_find, 924, 5, 131, 92, 922, 923),
  (2, yX2_await, 929, 0, 0, 92, 928, 29),
  (2, yX2_demand, 933, 0, 0, 92, 932, 30),
  (2, yX2_makeNode, 937, 4, 103, 92, 936, 31),
  (2, yX2_chooseWord, 941, 3, 73, 92, 940, 32),
  (2, yX2_splitWord, 963, 2, 47, 92, 962, 33),
  (2, yX2_fillWord, 971, 2, 45, 92, 970, 34),
  (3, yX3_init, 274, 1, 20, 88, 273, 0),
  (3, yX3_sort, 590, 0, 0, 88, 588, 589),
  (3, yX3_place, 612, 0, 0, 88, 610, 611),
  (3, yX3_content, 600, 0, 0, 88, 598, 599),
  (3, yX3_isKeyword, 595, 1, 20, 88, 593, 594),
  (3, yX3_advance, 620, 0, 0, 88, 618, 619),
  (3, yX3_start, 532, 4, 83, 88, 530, 531),
  (3, yX3_takeToken, 543, 3, 62, 88, 542, 0),
  (3, yX3_takeName, 550, 2, 40, 88, 549, 1),
  (3, yX3_takeNumber, 570, 1, 21, 88, 569, 2),
  (3, yX3_takePart, 576, 1, 21, 88, 575, 3),
  (3, yX3_takeSign, 583, 2, 40, 88, 582, 4),
  (3, yX3_isReserved, 559, 0, 0, 88, 558, 0),
  (3, yX3_isLetter, 546, 0, 0, 88, 545, 0),
  (3, yX3_isLetterOrDigit, 553, 1, 20, 88, 552, 0),
  (3, yX3_isPartByte, 579, 0, 0, 88, 578, 0),
  (3, yX3_isSign, 586, 0, 0, 88, 585, 0),
  (4, yX4_init, 268, 2, 41, 87, 267, 0),
  (4, yX4_parse, 527, 5, 116, 87, 525, 526),
  (4, yX4_blame, 616, 0, 0, 87, 615, 7),
  (4, yX4_refuse, 608, 1, 22, 87, 607, 6),
  (4, yX4_pass, 636, 2, 42, 87, 635, 8),
  (4, yX4_parseRank, 604, 3, 63, 87, 603, 5),
  (4, yX4_parseTighter, 641, 3, 67, 87, 640, 9),
  (4, yX4_parseKind, 666, 3, 66, 87, 665, 12),
  (4, yX4_passRank, 645, 2, 46, 87, 644, 10),
  (4, yX4_passKind, 675, 2, 46, 87, 674, 13),
  (4, yX4_passName, 649, 1, 22, 87, 648, 11),
  (4, yX4_parseWord, 688, 4, 93, 87, 687, 14),
  (4, yX4_parseLean, 696, 2, 42, 87, 695, 15),
  (4, yX4_parseElements, 702, 3, 66, 87, 701, 16),
  (4, yX4_parseSteps, 730, 3, 70, 87, 729, 17),
  (4, yX4_parseStep, 734, 2, 42, 87, 733, 18),
  (4, yX4_isNumber, 738, 1, 20, 87, 737, 19),
  (4, yX4_isOperation, 741, 0, 0, 87, 740, 0),
  (5, yX5_init, 337, 1, 20, 90, 336, 0),
  (5, yX5_clear, 779, 0, 0, 90, 777, 778),
  (5, yX5_add, 955, 0, 0, 90, 953, 954),
  (5, yX5_childOf, 998, 0, 0, 90, 996, 997),
  (6, yX6_init, 317, 1, 20, 89, 316, 0),
  (6, yX6_readFrom, 823, 1, 26, 89, 821, 822),
  (6, yX6_isNumber, 875, 1, 24, 89, 873, 874),
  (6, yX6_numberAt, 879, 0, 0, 89, 877, 878),
  (6, yX6_isBracketed, 888, 0, 0, 89, 886, 887),
  (7, yX7_init, 108, 1, 20, 84, 107, 0),
  (7, yX7_append, 515, 0, 0, 84, 513, 514),
  (7, yX7_byteAt, 536, 0, 0, 84, 534, 535),
  (8, yX8_init, 132, 1, 20, 86, 131, 0),
  (8, yX8_clear, 692, 0, 0, 86, 690, 691),
  (8, yX8_addPart, 714, 0, 0, 86, 712, 713),
  (8, yX8_mayTakeHole, 706, 1, 21, 86, 704, 705),
  (8, yX8_addHole, 718, 0, 0, 86, 716, 717),
  (8, yX8_addStep, 745, 0, 0, 86, 743, 744),
  (8, yX8_isHole, 710, 0, 0, 86, 708, 709),
  (8, yX8_ends, 726, 1, 21, 86, 724, 725),
  (8, yX8_isClosed, 722, 2, 41, 86, 720, 721),
  (8, yX8_hasPart, 1036, 0, 0, 86, 1034, 1035),
  (9, yX9_init, 454, 1, 20, 93, 453, 0),
  (9, yX9_forget, 783, 0, 0, 93, 781, 782),
  (9, yX9_run, 988, 4, 94, 93, 986, 987),
  (9, yX9_workNode, 993, 3, 70, 93, 992, 35),
  (9, yX9_runSteps, 1002, 2, 45, 93, 1001, 36),
  (9, yX9_push, 1006, 0, 0, 93, 1005, 37),
  (9, yX9_operate, 1010, 1, 22, 93, 1009, 38),
  (9, yX9_outcome, 1013, 0, 0, 93, 1012, 0),
  (10, yX10_init, 100, 3, 63, 83, 99, 0),
  (10, yX10_feed, 511, 1, 22, 83, 509, 510),
  (10, yX10_end, 519, 0, 0, 83, 517, 518),
  (10, yX10_book, 523, 6, 138, 83, 521, 522),
  (10, yX10_fault, 787, 0, 0, 83, 785, 786),
  (10, yX10_about, 791, 0, 0, 83, 789, 790),
  (10, yX10_word, 795, 2, 41, 83, 793, 794),
  (10, yX10_tighter, 804, 2, 43, 83, 802, 803),
  (10, yX10_under, 813, 2, 43, 83, 811, 812),
  (10, yX10_sentence, 819, 2, 52, 83, 817, 818),
  (10, yX10_count, 832, 6, 150, 83, 830, 831),
  (10, yX10_quarrel, 916, 6, 150, 83, 914, 915),
  (10, yX10_read, 920, 6, 154, 83, 918, 919),
  (10, yX10_node, 976, 0, 0, 83, 974, 975),
  (10, yX10_bind, 980, 1, 21, 83, 978, 979),
  (10, yX10_work, 984, 5, 120, 83, 982, 983),
  (10, yX10_worked, 1017, 0, 0, 83, 1015, 1016),
  (10, yX10_sure, 1021, 4, 86, 83, 1019, 1020),
  (10, yX10_dropReading, 771, 1, 21, 83, 770, 21),
  (10, yX10_hasBit, 656, 0, 0, 83, 655, 0),
  (10, yX10_isDigit, 556, 0, 0, 83, 555, 0),
  (10, yX10_isBlank, 539, 0, 0, 83, 538, 0),
  (10, yX10_plus, 867, 0, 0, 83, 866, 0),
  (10, yX10_times, 862, 0, 0, 83, 861, 0),
  (11, yX11_sign, 1274, 0, 0, 94, 1273, 40),
  (11, yX11_isLetter, 1277, 0, 0, 94, 1276, 0),
  (11, yX11_isDigit, 1280, 0, 0, 94, 1279, 0),
  (11, yX11_fails, 1310, 0, 0, 94, 1309, 45),
  (11, yX11_isGood, 1302, 0, 0, 94, 1301, 43),
  (11, yX11_next, 1270, 3, 66, 94, 1269, 39),
  (11, yX11_pack, 1284, 1, 21, 94, 1283, 41),
  (11, yX11_nextPart, 1295, 2, 44, 94, 1294, 42),
  (11, yX11_isPartSign, 1298, 0, 0, 94, 1297, 0),
  (11, yX11_is, 1326, 1, 21, 94, 1325, 49),
  (11, yX11_isWord, 1350, 0, 0, 94, 1349, 55),
  (11, yX11_wrong, 1306, 1, 22, 94, 1305, 44),
  (11, yX11_must, 1322, 4, 88, 94, 1321, 48),
  (11, yX11_rankOf, 1318, 0, 0, 94, 1317, 47),
  (11, yX11_kindOf, 1346, 0, 0, 94, 1345, 54),
  (11, yX11_aRank, 1334, 4, 88, 94, 1333, 51),
  (11, yX11_aKind, 1354, 4, 88, 94, 1353, 56),
  (11, yX11_readRank, 1314, 5, 109, 94, 1313, 46),
  (11, yX11_tight, 1338, 0, 0, 94, 1337, 52),
  (11, yX11_readTighter, 1330, 5, 109, 94, 1329, 50),
  (11, yX11_readKind, 1342, 5, 109, 94, 1341, 53),
  (11, yX11_readWord, 1358, 6, 132, 94, 1357, 57),
  (11, yX11_readElement, 1362, 5, 109, 94, 1361, 58),
  (11, yX11_readSteps, 1370, 4, 88, 94, 1369, 60),
  (11, yX11_ends, 1366, 0, 0, 94, 1365, 59),
  (11, yX11_init, 1041, 1, 20, 94, 1040, 0),
  (11, yX11_book, 1266, 7, 155, 94, 1264, 1265),
  (11, yX11_fault, 1374, 0, 0, 94, 1372, 1373),
  (11, yX11_about, 1378, 0, 0, 94, 1376, 1377),
  (11, yX11_isWordNumber, 1386, 0, 0, 94, 1385, 61),
  (11, yX11_word, 1382, 1, 21, 94, 1380, 1381),
  (11, yX11_tighter, 1390, 1, 22, 94, 1388, 1389),
  (11, yX11_isUnder, 1398, 0, 0, 94, 1397, 62),
  (11, yX11_under, 1394, 1, 23, 94, 1392, 1393),
  (11, yX11_sentence, 1402, 4, 102, 94, 1400, 1401),
  (11, yX11_sum, 1416, 0, 0, 94, 1415, 0),
  (11, yX11_product, 1420, 0, 0, 94, 1419, 0),
  (11, yX11_stretch, 1409, 0, 0, 94, 1408, 0),
  (11, yX11_numberKind, 1435, 0, 0, 94, 1434, 67),
  (11, yX11_countAll, 1406, 3, 77, 94, 1405, 63),
  (11, yX11_isNumber, 1431, 0, 0, 94, 1430, 66),
  (11, yX11_kindWays, 1427, 1, 23, 94, 1426, 65),
  (11, yX11_wordWays, 1413, 1, 23, 94, 1412, 64),
  (11, yX11_letsRank, 1447, 1, 22, 94, 1446, 70),
  (11, yX11_endOf, 1443, 0, 0, 94, 1442, 69),
  (11, yX11_holeWays, 1439, 2, 47, 94, 1438, 68),
  (11, yX11_allWays, 1455, 2, 50, 94, 1454, 71),
  (11, yX11_count, 1451, 3, 75, 94, 1449, 1450),
  (11, yX11_quarrel, 1460, 3, 75, 94, 1458, 1459),
  (11, yX11_pile, 1468, 0, 0, 94, 1467, 72),
  (11, yX11_read, 1464, 4, 128, 94, 1462, 1463),
  (11, yX11_open, 1472, 3, 93, 94, 1471, 73),
  (11, yX11_restWays, 1480, 1, 23, 94, 1479, 75),
  (11, yX11_cut, 1476, 2, 53, 94, 1475, 74),
  (11, yX11_node, 1484, 0, 0, 94, 1482, 1483),
  (11, yX11_bind, 1488, 1, 21, 94, 1486, 1487),
  (11, yX11_behind, 1496, 0, 0, 94, 1495, 76),
  (11, yX11_work, 1492, 2, 51, 94, 1490, 1491),
  (11, yX11_nextWithin, 1504, 0, 0, 94, 1503, 78),
  (11, yX11_isThrough, 1500, 1, 22, 94, 1499, 77),
  (11, yX11_value, 1508, 1, 28, 94, 1507, 79),
  (11, yX11_steps, 1512, 0, 0, 94, 1511, 80),
  (11, yX11_worked, 1516, 0, 0, 94, 1514, 1515),
  (11, yX11_sure, 1520, 2, 50, 94, 1518, 1519),
  (11, yX11_isAgainst, 1524, 1, 22, 94, 1523, 81),
  (11, yX11_feed, 1528, 0, 0, 94, 1526, 1527),
  (11, yX11_end, 1532, 0, 0, 94, 1530, 1531),
  (12, x, 0, 10, 358, 0, 0, 0)]
/-- of each class: the places of instantiable and initialized -/
def X_K2 : List (Nat × Nat) := [(122, 85), (372, 91), (405, 92), (271, 88), (265, 87), (334, 90), (314, 89), (105, 84), (129, 86), (451, 93), (97, 83), (1038, 94)]
/-- the entries of each class: fields, methods; and which kind each method is -/
def X_PF0 : List (Nat × Nat × Nat × Nat) := [(104, 8, 0, 1), (97, 8, 1, 1), (65, 8, 2, 1), (68, 8, 3, 1), (119, 8, 8, 1), (74, 8, 9, 1), (77, 8, 10, 1), (87, 8, 11, 1), (84, 8, 12, 1), (35, 0, 0, 0), (39, 0, 1, 0), (42, 0, 2, 0), (9, 0, 3, 0), (15, 0, 4, 0), (19, 0, 5, 0), (22, 0, 6, 0), (27, 0, 7, 0)]
def X_PM0 : List (Nat × Nat × Nat) := [(31, 94, 1), (32, 1, 0), (47, 7, 0), (59, 131, 1), (55, 11, 0), (51, 3, 0), (71, 100, 0), (80, 14, 0), (62, 12, 0), (90, 15, 0), (93, 17, 0), (100, 102, 0), (107, 19, 0), (111, 101, 0), (115, 20, 0), (122, 103, 0)]
def X_PF1 : List (Nat × Nat × Nat × Nat) := [(126, 8, 3, 1), (114, 8, 4, 1), (132, 8, 8, 1), (141, 8, 9, 1), (123, 8, 11, 1), (119, 8, 12, 1), (48, 0, 1, 1), (62, 0, 2, 1), (110, 0, 7, 1), (65, 6, 0, 1), (135, 6, 1, 1), (32, 1, 0, 0), (36, 1, 1, 0), (9, 1, 2, 0), (15, 1, 3, 0), (19, 1, 4, 0), (22, 1, 5, 0), (26, 1, 6, 0), (29, 1, 7, 0)]
def X_PM1 : List (Nat × Nat × Nat) := [(70, 32, 0), (40, 24, 0), (74, 37, 0), (129, 100, 0), (138, 38, 0), (78, 25, 0), (144, 27, 0), (147, 135, 1), (58, 134, 1), (82, 33, 0), (95, 88, 0), (99, 13, 0), (103, 90, 0), (44, 29, 0), (54, 131, 1), (106, 15, 0), (85, 30, 0), (88, 34, 0), (91, 35, 0)]
def X_PF2 : List (Nat × Nat × Nat × Nat) := [(126, 8, 3, 1), (149, 8, 4, 1), (135, 8, 9, 1), (151, 8, 11, 1), (154, 8, 12, 1), (111, 0, 2, 1), (123, 0, 7, 1), (61, 6, 0, 1), (98, 1, 0, 1), (44, 2, 0, 0), (48, 2, 1, 0), (52, 2, 2, 0), (9, 2, 3, 0), (15, 2, 4, 0), (19, 2, 5, 0), (22, 2, 6, 0), (25, 2, 7, 0), (28, 2, 8, 0), (31, 2, 9, 0), (34, 2, 10, 0), (38, 2, 11, 0), (41, 2, 12, 0)]
def X_PM2 : List (Nat × Nat × Nat) := [(56, 83, 0), (66, 41, 0), (70, 42, 0), (74, 43, 0), (77, 44, 0), (107, 28, 0), (116, 131, 1), (120, 26, 0), (81, 84, 0), (85, 36, 0), (91, 45, 0), (131, 100, 0), (138, 27, 0), (142, 135, 1), (146, 38, 0), (95, 46, 0), (102, 15, 0)]
def X_PF3 : List (Nat × Nat × Nat × Nat) := [(44, 7, 1, 1), (22, 3, 0, 0), (41, 3, 1, 0), (38, 3, 2, 0), (9, 3, 3, 0), (15, 3, 4, 0), (18, 3, 5, 0), (26, 3, 6, 0)]
def X_PM3 : List (Nat × Nat × Nat) := [(49, 93, 0), (53, 133, 1), (57, 54, 0), (60, 60, 0), (63, 55, 0), (78, 61, 0), (66, 132, 1), (81, 59, 0), (69, 56, 0), (72, 57, 0), (89, 62, 0), (75, 58, 0), (92, 63, 0), (30, 48, 0), (34, 50, 0)]
def X_PF4 : List (Nat × Nat × Nat × Nat) := [(154, 8, 1, 1), (147, 8, 2, 1), (164, 8, 3, 1), (161, 8, 4, 1), (183, 8, 5, 1), (83, 0, 0, 1), (112, 0, 1, 1), (131, 0, 2, 1), (134, 0, 7, 1), (23, 4, 0, 0), (27, 4, 1, 0), (9, 4, 2, 0), (15, 4, 3, 0)]
def X_PM4 : List (Nat × Nat × Nat) := [(20, 47, 0), (31, 1, 0), (36, 53, 0), (39, 48, 0), (45, 51, 0), (49, 69, 0), (67, 67, 0), (73, 49, 0), (76, 66, 0), (80, 52, 0), (86, 50, 0), (90, 5, 0), (94, 8, 0), (98, 68, 0), (54, 70, 0), (102, 72, 0), (127, 74, 0), (105, 11, 0), (109, 10, 0), (59, 71, 0), (115, 6, 0), (120, 73, 0), (123, 9, 0), (64, 75, 0), (138, 95, 0), (143, 76, 0), (150, 77, 0), (174, 97, 0), (177, 96, 0), (180, 98, 0), (157, 102, 0), (167, 78, 0), (186, 79, 0), (190, 80, 0), (193, 81, 0), (196, 99, 0), (70, 16, 0)]
def X_PF5 : List (Nat × Nat × Nat × Nat) := [(9, 5, 0, 0), (15, 5, 1, 0), (19, 5, 2, 0), (22, 5, 3, 0), (25, 5, 4, 0), (28, 5, 5, 0), (31, 5, 6, 0)]
def X_PM5 : List (Nat × Nat × Nat) := []
def X_PF6 : List (Nat × Nat × Nat × Nat) := [(22, 7, 1, 1), (9, 6, 0, 0), (15, 6, 1, 0), (19, 6, 2, 0)]
def X_PM6 : List (Nat × Nat × Nat) := [(27, 93, 0), (31, 133, 1), (41, 89, 0)]
def X_PF7 : List (Nat × Nat × Nat × Nat) := [(9, 7, 0, 0), (15, 7, 1, 0)]
def X_PM7 : List (Nat × Nat × Nat) := []
def X_PF8 : List (Nat × Nat × Nat × Nat) := [(34, 8, 0, 0), (38, 8, 1, 0), (41, 8, 2, 0), (44, 8, 3, 0), (47, 8, 4, 0), (50, 8, 5, 0), (53, 8, 6, 0), (57, 8, 7, 0), (9, 8, 8, 0), (15, 8, 9, 0), (19, 8, 10, 0), (22, 8, 11, 0), (25, 8, 12, 0), (28, 8, 13, 0), (31, 8, 14, 0)]
def X_PM8 : List (Nat × Nat × Nat) := [(60, 100, 0), (64, 101, 0)]
def X_PF9 : List (Nat × Nat × Nat × Nat) := [(73, 8, 5, 1), (85, 8, 6, 1), (82, 8, 7, 1), (89, 8, 13, 1), (92, 8, 14, 1), (67, 0, 7, 1), (39, 5, 0, 1), (51, 5, 1, 1), (54, 5, 2, 1), (44, 5, 4, 1), (28, 9, 0, 0), (32, 9, 1, 0), (9, 9, 2, 0), (15, 9, 3, 0), (18, 9, 4, 0), (22, 9, 5, 0), (25, 9, 6, 0)]
def X_PM9 : List (Nat × Nat × Nat) := [(36, 105, 0), (47, 107, 0), (57, 89, 0), (63, 85, 0), (78, 108, 0), (97, 109, 0), (101, 110, 0), (105, 111, 0)]
def X_PF10 : List (Nat × Nat × Nat × Nat) := [(76, 7, 1, 1), (118, 8, 0, 1), (123, 8, 1, 1), (126, 8, 2, 1), (129, 8, 3, 1), (132, 8, 4, 1), (139, 8, 5, 1), (190, 8, 6, 1), (194, 8, 7, 1), (103, 0, 0, 1), (106, 0, 1, 1), (94, 0, 2, 1), (114, 0, 7, 1), (97, 4, 2, 1), (100, 4, 3, 1), (88, 6, 0, 1), (109, 5, 0, 1), (175, 5, 1, 1), (179, 5, 2, 1), (182, 5, 3, 1), (184, 5, 4, 1), (187, 5, 5, 1), (201, 9, 2, 1), (204, 9, 3, 1), (12, 10, 0, 0), (19, 10, 1, 0), (23, 10, 2, 0), (31, 10, 3, 0), (38, 10, 4, 0), (45, 10, 5, 0), (54, 10, 6, 0), (63, 10, 7, 0), (72, 10, 8, 0)]
def X_PM10 : List (Nat × Nat × Nat) := [(11, 91, 1), (18, 0, 0), (28, 64, 0), (37, 86, 1), (44, 82, 1), (51, 21, 0), (60, 39, 0), (69, 104, 0), (80, 92, 0), (84, 65, 0), (91, 130, 0), (210, 22, 0), (214, 83, 0), (172, 105, 0), (110, 4, 0), (135, 101, 0), (142, 2, 0), (145, 11, 0), (149, 3, 0), (152, 12, 0), (155, 87, 0), (159, 31, 0), (162, 23, 0), (168, 40, 0), (197, 106, 0), (207, 18, 0)]
def X_PF11 : List (Nat × Nat × Nat × Nat) := [(188, 11, 0, 0), (293, 11, 1, 0), (7, 11, 2, 0), (1, 11, 3, 0), (91, 11, 4, 0), (11, 11, 5, 0), (14, 11, 6, 0), (20, 11, 7, 0), (17, 11, 8, 0), (27, 11, 9, 0), (59, 11, 10, 0), (62, 11, 11, 0), (41, 11, 12, 0), (87, 11, 13, 0), (97, 11, 14, 0), (111, 11, 15, 0), (134, 11, 16, 0), (141, 11, 17, 0), (144, 11, 18, 0), (147, 11, 19, 0), (150, 11, 20, 0), (153, 11, 21, 0), (156, 11, 22, 0), (177, 11, 23, 0), (180, 11, 24, 0), (168, 11, 25, 0), (171, 11, 26, 0), (174, 11, 27, 0), (84, 11, 28, 0), (94, 11, 29, 0), (138, 11, 30, 0), (308, 11, 31, 0), (191, 11, 32, 0), (311, 11, 33, 0), (194, 11, 34, 0), (197, 11, 35, 0), (200, 11, 36, 0), (203, 11, 37, 0), (314, 11, 38, 0), (206, 11, 39, 0), (209, 11, 40, 0), (213, 11, 41, 0), (216, 11, 42, 0), (219, 11, 43, 0), (222, 11, 44, 0), (225, 11, 45, 0), (228, 11, 46, 0), (231, 11, 47, 0), (234, 11, 48, 0), (317, 11, 49, 0), (237, 11, 50, 0), (240, 11, 51, 0), (243, 11, 52, 0), (246, 11, 53, 0), (249, 11, 54, 0), (252, 11, 55, 0), (255, 11, 56, 0), (258, 11, 57, 0), (382, 11, 58, 0), (261, 11, 59, 0), (264, 11, 60, 0), (267, 11, 61, 0), (270, 11, 62, 0), (273, 11, 63, 0), (276, 11, 64, 0), (279, 11, 65, 0), (282, 11, 66, 0), (285, 11, 67, 0), (320, 11, 68, 0), (402, 11, 69, 0), (399, 11, 70, 0), (288, 11, 71, 0)]
def X_PM11 : List (Nat × Nat × Nat) := [(78, 141, 0), (23, 136, 0), (30, 137, 0), (34, 138, 0), (37, 142, 0), (65, 143, 0), (69, 144, 0), (100, 140, 0), (81, 147, 0), (72, 139, 0), (296, 153, 0), (104, 149, 0), (115, 148, 0), (75, 145, 0), (299, 155, 0), (119, 151, 0), (123, 154, 0), (302, 156, 0), (108, 150, 0), (127, 146, 0), (131, 152, 0), (305, 157, 0), (159, 158, 0), (162, 160, 0), (165, 159, 0), (324, 165, 0), (327, 168, 0), (330, 175, 0), (337, 173, 0), (341, 178, 0), (362, 171, 0), (366, 172, 0), (349, 177, 0), (356, 176, 0), (359, 174, 0), (352, 181, 0), (369, 180, 0), (372, 179, 0), (376, 182, 0), (385, 185, 0), (389, 187, 0), (392, 189, 0), (396, 188, 0), (405, 192, 0), (408, 195, 0), (411, 194, 0), (414, 196, 0), (417, 197, 0), (420, 200, 0)]
def X_PF12 : List (Nat × Nat × Nat × Nat) := []
def X_PM12 : List (Nat × Nat × Nat) := [(9, 112, 0), (13, 113, 0), (18, 114, 0), (23, 115, 0), (28, 116, 0), (32, 117, 0), (36, 118, 0), (41, 119, 0), (45, 120, 0), (49, 121, 0), (53, 122, 0), (58, 123, 0), (64, 124, 0), (69, 125, 0), (73, 126, 0), (78, 127, 0), (82, 128, 0), (86, 129, 0), (12, 161, 0), (27, 162, 0), (31, 163, 0), (35, 164, 0), (40, 166, 0), (44, 167, 0), (48, 169, 0), (52, 170, 0), (57, 183, 0), (61, 184, 0), (68, 186, 0), (72, 190, 0), (77, 191, 0), (81, 193, 0), (85, 198, 0), (89, 199, 0), (17, 201, 0), (22, 202, 0)]
def X_PF : List (List (Nat × Nat × Nat × Nat)) := [X_PF0, X_PF1, X_PF2, X_PF3, X_PF4, X_PF5, X_PF6, X_PF7, X_PF8, X_PF9, X_PF10, X_PF11, X_PF12]
def X_PM : List (List (Nat × Nat × Nat)) := [X_PM0, X_PM1, X_PM2, X_PM3, X_PM4, X_PM5, X_PM6, X_PM7, X_PM8, X_PM9, X_PM10, X_PM11, X_PM12]
def X_KD : List Nat := [2, 0, 0, 0, 0, 0, 0, 1, 0, 0, 0, 0, 0, 0, 0, 0, 0, 0, 0, 1, 1, 2, 0, 0, 1, 1, 0, 0, 0, 0, 0, 0, 0, 0, 0, 0, 0, 0, 0, 2, 0, 0, 0, 0, 0, 0, 0, 2, 0, 0, 0, 0, 0, 0, 0, 0, 0, 0, 0, 1, 1, 1, 1, 1, 2, 0, 0, 0, 0, 0, 0, 0, 0, 0, 0, 0, 0, 0, 0, 0, 0, 1, 2, 0, 0, 0, 2, 0, 0, 0, 0, 2, 0, 0, 2, 0, 0, 0, 0, 0, 0, 0, 0, 0, 2, 0, 0, 0, 0, 0, 0, 1, 2, 0, 0, 0, 0, 0, 0, 0, 0, 0, 0, 0, 0, 0, 0, 0, 0, 0, 0, 1, 1, 1, 1, 1, 0, 1, 1, 0, 0, 0, 0, 0, 1, 0, 0, 0, 0, 0, 0, 0, 0, 0, 0, 0, 0, 0, 0, 0, 0, 2, 0, 0, 0, 0, 0, 0, 0, 0, 0, 1, 1, 1, 0, 0, 0, 0, 0, 0, 0, 0, 0, 0, 0, 0, 0, 0, 0, 0, 0, 0, 0, 0, 0, 0, 0, 0, 0, 0, 0, 0, 0, 9]
abbrev X_lp0 : List Nat := [247, 249, 251, 253, 255, 257, 259, 261]
abbrev X_lp1 : List Nat := [387, 389, 391, 393, 395, 397, 399, 401]
abbrev X_lp2 : List Nat := [423, 425, 427, 429, 431, 433, 435, 437, 439, 441, 443, 445, 447]
abbrev X_lp3 : List Nat := [283, 285, 287, 289, 291, 293, 295]
abbrev X_lp4 : List Nat := [304, 306, 308, 310]
abbrev X_lp5 : List Nat := [356, 358, 360, 362, 364, 366, 368]
abbrev X_lp6 : List Nat := [326, 328, 330]
abbrev X_lp7 : List Nat := [115, 117]
abbrev X_lp8 : List Nat := [187, 189, 191, 193, 195, 197, 199, 201, 203, 205, 207, 209, 211, 213, 215]
abbrev X_lp9 : List Nat := [465, 467, 469, 471, 473, 475, 477]
abbrev X_lp10 : List Nat := [489, 491, 493, 495, 497, 499, 501, 503, 505]
abbrev X_lp11 : List Nat := [1117, 1119, 1121, 1123, 1125, 1127, 1129, 1131, 1133, 1135, 1137, 1139, 1141, 1143, 1145, 1147, 1149, 1151, 1153, 1155, 1157, 1159, 1161, 1163, 1165, 1167, 1169, 1171, 1173, 1175, 1177, 1179, 1181, 1183, 1185, 1187, 1189, 1191, 1193, 1195, 1197, 1199, 1201, 1203, 1205, 1207, 1209, 1211, 1213, 1215, 1217, 1219, 1221, 1223, 1225, 1227, 1229, 1231, 1233, 1235, 1237, 1239, 1241, 1243, 1245, 1247, 1249, 1251, 1253, 1255, 1257, 1259]
abbrev X_oi : Nat := 102
abbrev X_oc : Nat := 103
abbrev X_an : Nat := 828
abbrev X_as : Nat := 827
abbrev X_ai : Nat := 95
abbrev X_ao : Nat := 128
abbrev X_ap : List Nat := [219, 218, 120, 1262]
