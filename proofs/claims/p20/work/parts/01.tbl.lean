-- ===== PART A: goes FIRST, ahead of the names: the tables' words, and 'selects' of the private methods out of them =====
/-- a private method of a class that the tables say can be made, by its rows of tables_1 -/
def lw_okq (q : MethodName × Nat) : Prop := (q.1.cls ≠ "java/lang/invoke/MethodHandle" ∧ q.1.cls ≠ "java/lang/invoke/VarHandle") ∧ Cond.instantiable q.1.cls q.2 ∈ tables_1 ∧ Cond.privateMethod q.1 ∈ tables_1 ∧ Cond.instanceMethod q.1 ∈ tables_1
theorem lw_p0 : lw_okq (⟨"MixfixBench$Lexer", "takeToken", "(I)I"⟩, 7) := ⟨⟨by decide +kernel, by decide +kernel⟩, List.mem_of_getElem? (i := 179) (by decide +kernel), List.mem_of_getElem? (i := 429) (by decide +kernel), List.mem_of_getElem? (i := 430) (by decide +kernel)⟩
theorem lw_p1 : lw_okq (⟨"MixfixBench$Lexer", "takeName", "()I"⟩, 7) := ⟨⟨by decide +kernel, by decide +kernel⟩, List.mem_of_getElem? (i := 179) (by decide +kernel), List.mem_of_getElem? (i := 436) (by decide +kernel), List.mem_of_getElem? (i := 437) (by decide +kernel)⟩
theorem lw_p2 : lw_okq (⟨"MixfixBench$Lexer", "takeNumber", "()I"⟩, 7) := ⟨⟨by decide +kernel, by decide +kernel⟩, List.mem_of_getElem? (i := 179) (by decide +kernel), List.mem_of_getElem? (i := 456) (by decide +kernel), List.mem_of_getElem? (i := 457) (by decide +kernel)⟩
theorem lw_p3 : lw_okq (⟨"MixfixBench$Lexer", "takePart", "()I"⟩, 7) := ⟨⟨by decide +kernel, by decide +kernel⟩, List.mem_of_getElem? (i := 179) (by decide +kernel), List.mem_of_getElem? (i := 462) (by decide +kernel), List.mem_of_getElem? (i := 463) (by decide +kernel)⟩
theorem lw_p4 : lw_okq (⟨"MixfixBench$Lexer", "takeSign", "(I)I"⟩, 7) := ⟨⟨by decide +kernel, by decide +kernel⟩, List.mem_of_getElem? (i := 179) (by decide +kernel), List.mem_of_getElem? (i := 469) (by decide +kernel), List.mem_of_getElem? (i := 470) (by decide +kernel)⟩
theorem lw_p5 : lw_okq (⟨"MixfixBench$Parser", "parseRank", "()V"⟩, 4) := ⟨⟨by decide +kernel, by decide +kernel⟩, List.mem_of_getElem? (i := 173) (by decide +kernel), List.mem_of_getElem? (i := 490) (by decide +kernel), List.mem_of_getElem? (i := 491) (by decide +kernel)⟩
theorem lw_p6 : lw_okq (⟨"MixfixBench$Parser", "refuse", "()V"⟩, 4) := ⟨⟨by decide +kernel, by decide +kernel⟩, List.mem_of_getElem? (i := 173) (by decide +kernel), List.mem_of_getElem? (i := 494) (by decide +kernel), List.mem_of_getElem? (i := 495) (by decide +kernel)⟩
theorem lw_p7 : lw_okq (⟨"MixfixBench$Parser", "blame", "(II)V"⟩, 4) := ⟨⟨by decide +kernel, by decide +kernel⟩, List.mem_of_getElem? (i := 173) (by decide +kernel), List.mem_of_getElem? (i := 502) (by decide +kernel), List.mem_of_getElem? (i := 503) (by decide +kernel)⟩
theorem lw_p8 : lw_okq (⟨"MixfixBench$Parser", "pass", "(I)Z"⟩, 4) := ⟨⟨by decide +kernel, by decide +kernel⟩, List.mem_of_getElem? (i := 173) (by decide +kernel), List.mem_of_getElem? (i := 522) (by decide +kernel), List.mem_of_getElem? (i := 523) (by decide +kernel)⟩
theorem lw_p9 : lw_okq (⟨"MixfixBench$Parser", "parseTighter", "()V"⟩, 4) := ⟨⟨by decide +kernel, by decide +kernel⟩, List.mem_of_getElem? (i := 173) (by decide +kernel), List.mem_of_getElem? (i := 527) (by decide +kernel), List.mem_of_getElem? (i := 528) (by decide +kernel)⟩
theorem lw_p10 : lw_okq (⟨"MixfixBench$Parser", "passRank", "()I"⟩, 4) := ⟨⟨by decide +kernel, by decide +kernel⟩, List.mem_of_getElem? (i := 173) (by decide +kernel), List.mem_of_getElem? (i := 531) (by decide +kernel), List.mem_of_getElem? (i := 532) (by decide +kernel)⟩
theorem lw_p11 : lw_okq (⟨"MixfixBench$Parser", "passName", "(I)I"⟩, 4) := ⟨⟨by decide +kernel, by decide +kernel⟩, List.mem_of_getElem? (i := 173) (by decide +kernel), List.mem_of_getElem? (i := 535) (by decide +kernel), List.mem_of_getElem? (i := 536) (by decide +kernel)⟩
theorem lw_p12 : lw_okq (⟨"MixfixBench$Parser", "parseKind", "()V"⟩, 4) := ⟨⟨by decide +kernel, by decide +kernel⟩, List.mem_of_getElem? (i := 173) (by decide +kernel), List.mem_of_getElem? (i := 552) (by decide +kernel), List.mem_of_getElem? (i := 553) (by decide +kernel)⟩
theorem lw_p13 : lw_okq (⟨"MixfixBench$Parser", "passKind", "()I"⟩, 4) := ⟨⟨by decide +kernel, by decide +kernel⟩, List.mem_of_getElem? (i := 173) (by decide +kernel), List.mem_of_getElem? (i := 561) (by decide +kernel), List.mem_of_getElem? (i := 562) (by decide +kernel)⟩
theorem lw_p14 : lw_okq (⟨"MixfixBench$Parser", "parseWord", "()V"⟩, 4) := ⟨⟨by decide +kernel, by decide +kernel⟩, List.mem_of_getElem? (i := 173) (by decide +kernel), List.mem_of_getElem? (i := 574) (by decide +kernel), List.mem_of_getElem? (i := 575) (by decide +kernel)⟩
theorem lw_p15 : lw_okq (⟨"MixfixBench$Parser", "parseLean", "(LMixfixBench$Word;)V"⟩, 4) := ⟨⟨by decide +kernel, by decide +kernel⟩, List.mem_of_getElem? (i := 173) (by decide +kernel), List.mem_of_getElem? (i := 582) (by decide +kernel), List.mem_of_getElem? (i := 583) (by decide +kernel)⟩
def lw_privs_1 : List (MethodName × Nat) := [(⟨"MixfixBench$Lexer", "takeToken", "(I)I"⟩, 7), (⟨"MixfixBench$Lexer", "takeName", "()I"⟩, 7), (⟨"MixfixBench$Lexer", "takeNumber", "()I"⟩, 7), (⟨"MixfixBench$Lexer", "takePart", "()I"⟩, 7), (⟨"MixfixBench$Lexer", "takeSign", "(I)I"⟩, 7), (⟨"MixfixBench$Parser", "parseRank", "()V"⟩, 4), (⟨"MixfixBench$Parser", "refuse", "()V"⟩, 4), (⟨"MixfixBench$Parser", "blame", "(II)V"⟩, 4), (⟨"MixfixBench$Parser", "pass", "(I)Z"⟩, 4), (⟨"MixfixBench$Parser", "parseTighter", "()V"⟩, 4), (⟨"MixfixBench$Parser", "passRank", "()I"⟩, 4), (⟨"MixfixBench$Parser", "passName", "(I)I"⟩, 4), (⟨"MixfixBench$Parser", "parseKind", "()V"⟩, 4), (⟨"MixfixBench$Parser", "passKind", "()I"⟩, 4), (⟨"MixfixBench$Parser", "parseWord", "()V"⟩, 4), (⟨"MixfixBench$Parser", "parseLean", "(LMixfixBench$Word;)V"⟩, 4)]
theorem lw_r1 : ∀ q ∈ lw_privs_1, lw_okq q := List.forall_mem_cons.mpr ⟨lw_p0, List.forall_mem_cons.mpr ⟨lw_p1, List.forall_mem_cons.mpr ⟨lw_p2, List.forall_mem_cons.mpr ⟨lw_p3, List.forall_mem_cons.mpr ⟨lw_p4, List.forall_mem_cons.mpr ⟨lw_p5, List.forall_mem_cons.mpr ⟨lw_p6, List.forall_mem_cons.mpr ⟨lw_p7, List.forall_mem_cons.mpr ⟨lw_p8, List.forall_mem_cons.mpr ⟨lw_p9, List.forall_mem_cons.mpr ⟨lw_p10, List.forall_mem_cons.mpr ⟨lw_p11, List.forall_mem_cons.mpr ⟨lw_p12, List.forall_mem_cons.mpr ⟨lw_p13, List.forall_mem_cons.mpr ⟨lw_p14, List.forall_mem_cons.mpr ⟨lw_p15, fun _ h => absurd h List.not_mem_nil⟩⟩⟩⟩⟩⟩⟩⟩⟩⟩⟩⟩⟩⟩⟩⟩
theorem lw_p16 : lw_okq (⟨"MixfixBench$Parser", "parseElements", "(LMixfixBench$Word;)Z"⟩, 4) := ⟨⟨by decide +kernel, by decide +kernel⟩, List.mem_of_getElem? (i := 173) (by decide +kernel), List.mem_of_getElem? (i := 588) (by decide +kernel), List.mem_of_getElem? (i := 589) (by decide +kernel)⟩
theorem lw_p17 : lw_okq (⟨"MixfixBench$Parser", "parseSteps", "(LMixfixBench$Word;)Z"⟩, 4) := ⟨⟨by decide +kernel, by decide +kernel⟩, List.mem_of_getElem? (i := 173) (by decide +kernel), List.mem_of_getElem? (i := 616) (by decide +kernel), List.mem_of_getElem? (i := 617) (by decide +kernel)⟩
theorem lw_p18 : lw_okq (⟨"MixfixBench$Parser", "parseStep", "(LMixfixBench$Word;I)I"⟩, 4) := ⟨⟨by decide +kernel, by decide +kernel⟩, List.mem_of_getElem? (i := 173) (by decide +kernel), List.mem_of_getElem? (i := 620) (by decide +kernel), List.mem_of_getElem? (i := 621) (by decide +kernel)⟩
theorem lw_p19 : lw_okq (⟨"MixfixBench$Parser", "isNumber", "()Z"⟩, 4) := ⟨⟨by decide +kernel, by decide +kernel⟩, List.mem_of_getElem? (i := 173) (by decide +kernel), List.mem_of_getElem? (i := 624) (by decide +kernel), List.mem_of_getElem? (i := 625) (by decide +kernel)⟩
theorem lw_p20 : lw_okq (⟨"MixfixBench$Book", "wordsFitting", "(LMixfixBench$Word;I)I"⟩, 8) := ⟨⟨by decide +kernel, by decide +kernel⟩, List.mem_of_getElem? (i := 39) (by decide +kernel), List.mem_of_getElem? (i := 652) (by decide +kernel), List.mem_of_getElem? (i := 653) (by decide +kernel)⟩
theorem lw_p21 : lw_okq (⟨"MixfixBench", "dropReading", "()V"⟩, 9) := ⟨⟨by decide +kernel, by decide +kernel⟩, List.mem_of_getElem? (i := 14) (by decide +kernel), List.mem_of_getElem? (i := 657) (by decide +kernel), List.mem_of_getElem? (i := 658) (by decide +kernel)⟩
theorem lw_p22 : lw_okq (⟨"MixfixBench$Chart", "fillStretch", "(II)V"⟩, 8) := ⟨⟨by decide +kernel, by decide +kernel⟩, List.mem_of_getElem? (i := 274) (by decide +kernel), List.mem_of_getElem? (i := 694) (by decide +kernel), List.mem_of_getElem? (i := 695) (by decide +kernel)⟩
theorem lw_p23 : lw_okq (⟨"MixfixBench$Chart", "ways", "(IIII)J"⟩, 8) := ⟨⟨by decide +kernel, by decide +kernel⟩, List.mem_of_getElem? (i := 274) (by decide +kernel), List.mem_of_getElem? (i := 701) (by decide +kernel), List.mem_of_getElem? (i := 702) (by decide +kernel)⟩
theorem lw_p24 : lw_okq (⟨"MixfixBench$Chart", "fillKinds", "(II)V"⟩, 8) := ⟨⟨by decide +kernel, by decide +kernel⟩, List.mem_of_getElem? (i := 274) (by decide +kernel), List.mem_of_getElem? (i := 725) (by decide +kernel), List.mem_of_getElem? (i := 726) (by decide +kernel)⟩
theorem lw_p25 : lw_okq (⟨"MixfixBench$Chart", "sumOfKinds", "(II)J"⟩, 8) := ⟨⟨by decide +kernel, by decide +kernel⟩, List.mem_of_getElem? (i := 274) (by decide +kernel), List.mem_of_getElem? (i := 748) (by decide +kernel), List.mem_of_getElem? (i := 749) (by decide +kernel)⟩
theorem lw_p26 : lw_okq (⟨"MixfixBench$Chart", "sumOfWords", "(II)J"⟩, 8) := ⟨⟨by decide +kernel, by decide +kernel⟩, List.mem_of_getElem? (i := 274) (by decide +kernel), List.mem_of_getElem? (i := 754) (by decide +kernel), List.mem_of_getElem? (i := 755) (by decide +kernel)⟩
theorem lw_p27 : lw_okq (⟨"MixfixBench$Chart", "fillHoles", "(II)V"⟩, 8) := ⟨⟨by decide +kernel, by decide +kernel⟩, List.mem_of_getElem? (i := 274) (by decide +kernel), List.mem_of_getElem? (i := 758) (by decide +kernel), List.mem_of_getElem? (i := 759) (by decide +kernel)⟩
theorem lw_p28 : lw_okq (⟨"MixfixBench$Chart", "fillTails", "(III)V"⟩, 8) := ⟨⟨by decide +kernel, by decide +kernel⟩, List.mem_of_getElem? (i := 274) (by decide +kernel), List.mem_of_getElem? (i := 762) (by decide +kernel), List.mem_of_getElem? (i := 763) (by decide +kernel)⟩
theorem lw_p29 : lw_okq (⟨"MixfixBench$Finder", "await", "(IIII)V"⟩, 13) := ⟨⟨by decide +kernel, by decide +kernel⟩, List.mem_of_getElem? (i := 307) (by decide +kernel), List.mem_of_getElem? (i := 783) (by decide +kernel), List.mem_of_getElem? (i := 784) (by decide +kernel)⟩
theorem lw_p30 : lw_okq (⟨"MixfixBench$Finder", "demand", "(IIJ)V"⟩, 13) := ⟨⟨by decide +kernel, by decide +kernel⟩, List.mem_of_getElem? (i := 307) (by decide +kernel), List.mem_of_getElem? (i := 787) (by decide +kernel), List.mem_of_getElem? (i := 788) (by decide +kernel)⟩
theorem lw_p31 : lw_okq (⟨"MixfixBench$Finder", "makeNode", "()V"⟩, 13) := ⟨⟨by decide +kernel, by decide +kernel⟩, List.mem_of_getElem? (i := 307) (by decide +kernel), List.mem_of_getElem? (i := 791) (by decide +kernel), List.mem_of_getElem? (i := 792) (by decide +kernel)⟩
def lw_privs_2 : List (MethodName × Nat) := [(⟨"MixfixBench$Parser", "parseElements", "(LMixfixBench$Word;)Z"⟩, 4), (⟨"MixfixBench$Parser", "parseSteps", "(LMixfixBench$Word;)Z"⟩, 4), (⟨"MixfixBench$Parser", "parseStep", "(LMixfixBench$Word;I)I"⟩, 4), (⟨"MixfixBench$Parser", "isNumber", "()Z"⟩, 4), (⟨"MixfixBench$Book", "wordsFitting", "(LMixfixBench$Word;I)I"⟩, 8), (⟨"MixfixBench", "dropReading", "()V"⟩, 9), (⟨"MixfixBench$Chart", "fillStretch", "(II)V"⟩, 8), (⟨"MixfixBench$Chart", "ways", "(IIII)J"⟩, 8), (⟨"MixfixBench$Chart", "fillKinds", "(II)V"⟩, 8), (⟨"MixfixBench$Chart", "sumOfKinds", "(II)J"⟩, 8), (⟨"MixfixBench$Chart", "sumOfWords", "(II)J"⟩, 8), (⟨"MixfixBench$Chart", "fillHoles", "(II)V"⟩, 8), (⟨"MixfixBench$Chart", "fillTails", "(III)V"⟩, 8), (⟨"MixfixBench$Finder", "await", "(IIII)V"⟩, 13), (⟨"MixfixBench$Finder", "demand", "(IIJ)V"⟩, 13), (⟨"MixfixBench$Finder", "makeNode", "()V"⟩, 13)]
theorem lw_r2 : ∀ q ∈ lw_privs_2, lw_okq q := List.forall_mem_cons.mpr ⟨lw_p16, List.forall_mem_cons.mpr ⟨lw_p17, List.forall_mem_cons.mpr ⟨lw_p18, List.forall_mem_cons.mpr ⟨lw_p19, List.forall_mem_cons.mpr ⟨lw_p20, List.forall_mem_cons.mpr ⟨lw_p21, List.forall_mem_cons.mpr ⟨lw_p22, List.forall_mem_cons.mpr ⟨lw_p23, List.forall_mem_cons.mpr ⟨lw_p24, List.forall_mem_cons.mpr ⟨lw_p25, List.forall_mem_cons.mpr ⟨lw_p26, List.forall_mem_cons.mpr ⟨lw_p27, List.forall_mem_cons.mpr ⟨lw_p28, List.forall_mem_cons.mpr ⟨lw_p29, List.forall_mem_cons.mpr ⟨lw_p30, List.forall_mem_cons.mpr ⟨lw_p31, fun _ h => absurd h List.not_mem_nil⟩⟩⟩⟩⟩⟩⟩⟩⟩⟩⟩⟩⟩⟩⟩⟩
theorem lw_p32 : lw_okq (⟨"MixfixBench$Finder", "chooseWord", "(I)I"⟩, 13) := ⟨⟨by decide +kernel, by decide +kernel⟩, List.mem_of_getElem? (i := 307) (by decide +kernel), List.mem_of_getElem? (i := 795) (by decide +kernel), List.mem_of_getElem? (i := 796) (by decide +kernel)⟩
theorem lw_p33 : lw_okq (⟨"MixfixBench$Finder", "splitWord", "(IIIJ)J"⟩, 13) := ⟨⟨by decide +kernel, by decide +kernel⟩, List.mem_of_getElem? (i := 307) (by decide +kernel), List.mem_of_getElem? (i := 817) (by decide +kernel), List.mem_of_getElem? (i := 818) (by decide +kernel)⟩
theorem lw_p34 : lw_okq (⟨"MixfixBench$Finder", "fillWord", "(IIJ)V"⟩, 13) := ⟨⟨by decide +kernel, by decide +kernel⟩, List.mem_of_getElem? (i := 307) (by decide +kernel), List.mem_of_getElem? (i := 825) (by decide +kernel), List.mem_of_getElem? (i := 826) (by decide +kernel)⟩
def lw_privs_3 : List (MethodName × Nat) := [(⟨"MixfixBench$Finder", "chooseWord", "(I)I"⟩, 13), (⟨"MixfixBench$Finder", "splitWord", "(IIIJ)J"⟩, 13), (⟨"MixfixBench$Finder", "fillWord", "(IIJ)V"⟩, 13)]
theorem lw_r3 : ∀ q ∈ lw_privs_3, lw_okq q := List.forall_mem_cons.mpr ⟨lw_p32, List.forall_mem_cons.mpr ⟨lw_p33, List.forall_mem_cons.mpr ⟨lw_p34, fun _ h => absurd h List.not_mem_nil⟩⟩⟩
def lw_privs : List (MethodName × Nat) := lw_privs_1 ++ (lw_privs_2 ++ (lw_privs_3))
def lw_tbl : List Cond := k2_sels lw_privs ++ tables_1
theorem lw_privs_ok : ∀ q ∈ lw_privs, lw_okq q := by
  show ∀ q ∈ lw_privs_1 ++ (lw_privs_2 ++ (lw_privs_3)), lw_okq q
  exact List.forall_mem_append.mpr ⟨lw_r1, List.forall_mem_append.mpr ⟨lw_r2, lw_r3⟩⟩
-- ===== end of PART A =====
def RX0 : String := "MixfixBench$Book"
def TX0 : u_T := fun k => match k with
  | 0 => ("MixfixBench$Book", "rankCount", "I", false)
  | 1 => ("MixfixBench$Book", "kindCount", "I", false)
  | 2 => ("MixfixBench$Book", "wordCount", "I", false)
  | 3 => ("MixfixBench$Book", "rankNames", "[J", true)
  | 4 => ("MixfixBench$Book", "looser", "[I", true)
  | 5 => ("MixfixBench$Book", "kindNames", "[J", true)
  | 6 => ("MixfixBench$Book", "above", "[I", true)
  | _ => ("MixfixBench$Book", "words", "[LMixfixBench$Word;", true)
def tyX0 : Nat → FieldType := fun k => match k with
  | 0 => .int
  | 1 => .int
  | 2 => .int
  | 3 => .array .long
  | 4 => .array .int
  | 5 => .array .long
  | 6 => .array .int
  | _ => .array (.object "MixfixBench$Word")
theorem nmX0 : ∀ a, a < 8 → ∀ b, b < 8 → a ≠ b → (TX0 a).2.1 ≠ (TX0 b).2.1 := by decide +kernel
theorem tyX0_ok : ∀ k, k < 8 → parseFieldDescriptor (TX0 k).2.2.1 = some (tyX0 k) := by decide +kernel
abbrev cX0_init : ByteArray := prog_2_method_1_code
def yX0_init : MethodName := ⟨RX0, "<init>", "()V"⟩
abbrev cX0_clear : ByteArray := prog_2_method_2_code
def yX0_clear : MethodName := ⟨RX0, "clear", "()V"⟩
abbrev cX0_hasKind : ByteArray := prog_2_method_4_code
def yX0_hasKind : MethodName := ⟨RX0, "hasKind", "(I)Z"⟩
abbrev cX0_hasWord : ByteArray := prog_2_method_5_code
def yX0_hasWord : MethodName := ⟨RX0, "hasWord", "(I)Z"⟩
abbrev cX0_rankNamed : ByteArray := prog_2_method_6_code
def yX0_rankNamed : MethodName := ⟨RX0, "rankNamed", "(J)I"⟩
abbrev cX0_kindNamed : ByteArray := prog_2_method_7_code
def yX0_kindNamed : MethodName := ⟨RX0, "kindNamed", "(J)I"⟩
abbrev cX0_indexOf : ByteArray := prog_2_method_8_code
def yX0_indexOf : MethodName := ⟨RX0, "indexOf", "([JIJ)I"⟩
abbrev cX0_addRank : ByteArray := prog_2_method_9_code
def yX0_addRank : MethodName := ⟨RX0, "addRank", "(J)V"⟩
abbrev cX0_addKind : ByteArray := prog_2_method_10_code
def yX0_addKind : MethodName := ⟨RX0, "addKind", "(JI)V"⟩
abbrev cX0_setTighter : ByteArray := prog_2_method_11_code
def yX0_setTighter : MethodName := ⟨RX0, "setTighter", "(II)V"⟩
abbrev cX0_isTighter : ByteArray := prog_2_method_12_code
def yX0_isTighter : MethodName := ⟨RX0, "isTighter", "(II)Z"⟩
abbrev cX0_isUnder : ByteArray := prog_2_method_13_code
def yX0_isUnder : MethodName := ⟨RX0, "isUnder", "(II)Z"⟩
abbrev cX0_numberKind : ByteArray := prog_2_method_14_code
def yX0_numberKind : MethodName := ⟨RX0, "numberKind", "()I"⟩
abbrev cX0_kindsUnder : ByteArray := prog_2_method_15_code
def yX0_kindsUnder : MethodName := ⟨RX0, "kindsUnder", "(I)I"⟩
abbrev cX0_wordsOfKinds : ByteArray := prog_2_method_16_code
def yX0_wordsOfKinds : MethodName := ⟨RX0, "wordsOfKinds", "(I)I"⟩
abbrev cX0_settleHoles : ByteArray := prog_2_method_17_code
def yX0_settleHoles : MethodName := ⟨RX0, "settleHoles", "()V"⟩
abbrev cX0_wordsFitting : ByteArray := prog_2_method_18_code
def yX0_wordsFitting : MethodName := ⟨RX0, "wordsFitting", "(LMixfixBench$Word;I)I"⟩
def RX1 : String := "MixfixBench$Chart"
def TX1 : u_T := fun k => match k with
  | 0 => ("MixfixBench$Chart", "book", "LMixfixBench$Book;", false)
  | 1 => ("MixfixBench$Chart", "sentence", "LMixfixBench$Sentence;", true)
  | 2 => ("MixfixBench$Chart", "filled", "Z", false)
  | 3 => ("MixfixBench$Chart", "ofKind", "[J", true)
  | 4 => ("MixfixBench$Chart", "ofWord", "[J", true)
  | 5 => ("MixfixBench$Chart", "ofAny", "[J", true)
  | 6 => ("MixfixBench$Chart", "ofHole", "[J", true)
  | _ => ("MixfixBench$Chart", "tails", "[J", true)
def tyX1 : Nat → FieldType := fun k => match k with
  | 0 => .object "MixfixBench$Book"
  | 1 => .object "MixfixBench$Sentence"
  | 2 => .boolean
  | 3 => .array .long
  | 4 => .array .long
  | 5 => .array .long
  | 6 => .array .long
  | _ => .array .long
theorem nmX1 : ∀ a, a < 8 → ∀ b, b < 8 → a ≠ b → (TX1 a).2.1 ≠ (TX1 b).2.1 := by decide +kernel
theorem tyX1_ok : ∀ k, k < 8 → parseFieldDescriptor (TX1 k).2.2.1 = some (tyX1 k) := by decide +kernel
abbrev cX1_init : ByteArray := prog_3_method_1_code
def yX1_init : MethodName := ⟨RX1, "<init>", "(LMixfixBench$Book;LMixfixBench$Sentence;)V"⟩
abbrev cX1_startOver : ByteArray := prog_3_method_2_code
def yX1_startOver : MethodName := ⟨RX1, "startOver", "(LMixfixBench$Book;)V"⟩
abbrev cX1_readingsOf : ByteArray := prog_3_method_3_code
def yX1_readingsOf : MethodName := ⟨RX1, "readingsOf", "(II)J"⟩
abbrev cX1_rowOf : ByteArray := prog_3_method_4_code
def yX1_rowOf : MethodName := ⟨RX1, "rowOf", "(II)I"⟩
abbrev cX1_tailOf : ByteArray := prog_3_method_5_code
def yX1_tailOf : MethodName := ⟨RX1, "tailOf", "(III)I"⟩
abbrev cX1_wordReadings : ByteArray := prog_3_method_6_code
def yX1_wordReadings : MethodName := ⟨RX1, "wordReadings", "(III)J"⟩
abbrev cX1_holeReadings : ByteArray := prog_3_method_7_code
def yX1_holeReadings : MethodName := ⟨RX1, "holeReadings", "(IIII)J"⟩
abbrev cX1_plainReadings : ByteArray := prog_3_method_8_code
def yX1_plainReadings : MethodName := ⟨RX1, "plainReadings", "(III)J"⟩
abbrev cX1_sumOfKinds : ByteArray := prog_3_method_9_code
def yX1_sumOfKinds : MethodName := ⟨RX1, "sumOfKinds", "(II)J"⟩
abbrev cX1_sumOfWords : ByteArray := prog_3_method_10_code
def yX1_sumOfWords : MethodName := ⟨RX1, "sumOfWords", "(II)J"⟩
abbrev cX1_fill : ByteArray := prog_3_method_11_code
def yX1_fill : MethodName := ⟨RX1, "fill", "()V"⟩
abbrev cX1_fillStretch : ByteArray := prog_3_method_12_code
def yX1_fillStretch : MethodName := ⟨RX1, "fillStretch", "(II)V"⟩
abbrev cX1_fillKinds : ByteArray := prog_3_method_13_code
def yX1_fillKinds : MethodName := ⟨RX1, "fillKinds", "(II)V"⟩
abbrev cX1_fillHoles : ByteArray := prog_3_method_14_code
def yX1_fillHoles : MethodName := ⟨RX1, "fillHoles", "(II)V"⟩
abbrev cX1_fillTails : ByteArray := prog_3_method_15_code
def yX1_fillTails : MethodName := ⟨RX1, "fillTails", "(III)V"⟩
abbrev cX1_prepareTails : ByteArray := prog_3_method_16_code
def yX1_prepareTails : MethodName := ⟨RX1, "prepareTails", "(III)V"⟩
abbrev cX1_ways : ByteArray := prog_3_method_17_code
def yX1_ways : MethodName := ⟨RX1, "ways", "(IIII)J"⟩
abbrev cX1_tail : ByteArray := prog_3_method_18_code
def yX1_tail : MethodName := ⟨RX1, "tail", "(IIII)J"⟩
def RX2 : String := "MixfixBench$Finder"
def TX2 : u_T := fun k => match k with
  | 0 => ("MixfixBench$Finder", "chart", "LMixfixBench$Chart;", true)
  | 1 => ("MixfixBench$Finder", "sentence", "LMixfixBench$Sentence;", true)
  | 2 => ("MixfixBench$Finder", "reading", "LMixfixBench$Reading;", true)
  | 3 => ("MixfixBench$Finder", "waiting", "I", false)
  | 4 => ("MixfixBench$Finder", "firsts", "[I", true)
  | 5 => ("MixfixBench$Finder", "ends", "[I", true)
  | 6 => ("MixfixBench$Finder", "parents", "[I", true)
  | 7 => ("MixfixBench$Finder", "holes", "[I", true)
  | 8 => ("MixfixBench$Finder", "words", "[I", true)
  | 9 => ("MixfixBench$Finder", "kinds", "[I", true)
  | 10 => ("MixfixBench$Finder", "numbers", "[J", true)
  | 11 => ("MixfixBench$Finder", "holeFirsts", "[I", true)
  | _ => ("MixfixBench$Finder", "holeEnds", "[I", true)
def tyX2 : Nat → FieldType := fun k => match k with
  | 0 => .object "MixfixBench$Chart"
  | 1 => .object "MixfixBench$Sentence"
  | 2 => .object "MixfixBench$Reading"
  | 3 => .int
  | 4 => .array .int
  | 5 => .array .int
  | 6 => .array .int
  | 7 => .array .int
  | 8 => .array .int
  | 9 => .array .int
  | 10 => .array .long
  | 11 => .array .int
  | _ => .array .int
theorem nmX2 : ∀ a, a < 13 → ∀ b, b < 13 → a ≠ b → (TX2 a).2.1 ≠ (TX2 b).2.1 := by decide +kernel
theorem tyX2_ok : ∀ k, k < 13 → parseFieldDescriptor (TX2 k).2.2.1 = some (tyX2 k) := by decide +kernel
abbrev cX2_init : ByteArray := prog_4_method_1_code
def yX2_init : MethodName := ⟨RX2, "<init>", "(LMixfixBench$Chart;LMixfixBench$Sentence;LMixfixBench$Reading;)V"⟩
abbrev cX2_find : ByteArray := prog_4_method_2_code
def yX2_find : MethodName := ⟨RX2, "find", "(J)V"⟩
abbrev cX2_await : ByteArray := prog_4_method_3_code
def yX2_await : MethodName := ⟨RX2, "await", "(IIII)V"⟩
abbrev cX2_demand : ByteArray := prog_4_method_4_code
def yX2_demand : MethodName := ⟨RX2, "demand", "(IIJ)V"⟩
abbrev cX2_makeNode : ByteArray := prog_4_method_5_code
def yX2_makeNode : MethodName := ⟨RX2, "makeNode", "()V"⟩
abbrev cX2_chooseWord : ByteArray := prog_4_method_6_code
def yX2_chooseWord : MethodName := ⟨RX2, "chooseWord", "(I)I"⟩
abbrev cX2_splitWord : ByteArray := prog_4_method_7_code
def yX2_splitWord : MethodName := ⟨RX2, "splitWord", "(IIIJ)J"⟩
abbrev cX2_fillWord : ByteArray := prog_4_method_8_code
def yX2_fillWord : MethodName := ⟨RX2, "fillWord", "(IIJ)V"⟩
def RX3 : String := "MixfixBench$Lexer"
def TX3 : u_T := fun k => match k with
  | 0 => ("MixfixBench$Lexer", "tape", "LMixfixBench$Tape;", true)
  | 1 => ("MixfixBench$Lexer", "at", "I", false)
  | 2 => ("MixfixBench$Lexer", "count", "I", false)
  | 3 => ("MixfixBench$Lexer", "sorts", "[I", true)
  | 4 => ("MixfixBench$Lexer", "places", "[I", true)
  | 5 => ("MixfixBench$Lexer", "contents", "[J", true)
  | _ => ("MixfixBench$Lexer", "current", "I", false)
def tyX3 : Nat → FieldType := fun k => match k with
  | 0 => .object "MixfixBench$Tape"
  | 1 => .int
  | 2 => .int
  | 3 => .array .int
  | 4 => .array .int
  | 5 => .array .long
  | _ => .int
theorem nmX3 : ∀ a, a < 7 → ∀ b, b < 7 → a ≠ b → (TX3 a).2.1 ≠ (TX3 b).2.1 := by decide +kernel
theorem tyX3_ok : ∀ k, k < 7 → parseFieldDescriptor (TX3 k).2.2.1 = some (tyX3 k) := by decide +kernel
abbrev cX3_init : ByteArray := prog_5_method_1_code
def yX3_init : MethodName := ⟨RX3, "<init>", "(LMixfixBench$Tape;)V"⟩
abbrev cX3_sort : ByteArray := prog_5_method_2_code
def yX3_sort : MethodName := ⟨RX3, "sort", "()I"⟩
abbrev cX3_place : ByteArray := prog_5_method_3_code
def yX3_place : MethodName := ⟨RX3, "place", "()I"⟩
abbrev cX3_content : ByteArray := prog_5_method_4_code
def yX3_content : MethodName := ⟨RX3, "content", "()J"⟩
abbrev cX3_isKeyword : ByteArray := prog_5_method_5_code
def yX3_isKeyword : MethodName := ⟨RX3, "isKeyword", "(J)Z"⟩
abbrev cX3_advance : ByteArray := prog_5_method_6_code
def yX3_advance : MethodName := ⟨RX3, "advance", "()V"⟩
abbrev cX3_start : ByteArray := prog_5_method_7_code
def yX3_start : MethodName := ⟨RX3, "start", "()V"⟩
abbrev cX3_takeToken : ByteArray := prog_5_method_8_code
def yX3_takeToken : MethodName := ⟨RX3, "takeToken", "(I)I"⟩
abbrev cX3_takeName : ByteArray := prog_5_method_9_code
def yX3_takeName : MethodName := ⟨RX3, "takeName", "()I"⟩
abbrev cX3_takeNumber : ByteArray := prog_5_method_10_code
def yX3_takeNumber : MethodName := ⟨RX3, "takeNumber", "()I"⟩
abbrev cX3_takePart : ByteArray := prog_5_method_11_code
def yX3_takePart : MethodName := ⟨RX3, "takePart", "()I"⟩
abbrev cX3_takeSign : ByteArray := prog_5_method_12_code
def yX3_takeSign : MethodName := ⟨RX3, "takeSign", "(I)I"⟩
abbrev cX3_isReserved : ByteArray := prog_5_method_13_code
def yX3_isReserved : MethodName := ⟨RX3, "isReserved", "(J)Z"⟩
abbrev cX3_isLetter : ByteArray := prog_5_method_14_code
def yX3_isLetter : MethodName := ⟨RX3, "isLetter", "(I)Z"⟩
abbrev cX3_isLetterOrDigit : ByteArray := prog_5_method_15_code
def yX3_isLetterOrDigit : MethodName := ⟨RX3, "isLetterOrDigit", "(I)Z"⟩
abbrev cX3_isPartByte : ByteArray := prog_5_method_16_code
def yX3_isPartByte : MethodName := ⟨RX3, "isPartByte", "(I)Z"⟩
abbrev cX3_isSign : ByteArray := prog_5_method_17_code
def yX3_isSign : MethodName := ⟨RX3, "isSign", "(I)Z"⟩
def RX4 : String := "MixfixBench$Parser"
def TX4 : u_T := fun k => match k with
  | 0 => ("MixfixBench$Parser", "lexer", "LMixfixBench$Lexer;", true)
  | 1 => ("MixfixBench$Parser", "book", "LMixfixBench$Book;", false)
  | 2 => ("MixfixBench$Parser", "fault", "I", false)
  | _ => ("MixfixBench$Parser", "faultPlace", "I", false)
def tyX4 : Nat → FieldType := fun k => match k with
  | 0 => .object "MixfixBench$Lexer"
  | 1 => .object "MixfixBench$Book"
  | 2 => .int
  | _ => .int
theorem nmX4 : ∀ a, a < 4 → ∀ b, b < 4 → a ≠ b → (TX4 a).2.1 ≠ (TX4 b).2.1 := by decide +kernel
theorem tyX4_ok : ∀ k, k < 4 → parseFieldDescriptor (TX4 k).2.2.1 = some (tyX4 k) := by decide +kernel
abbrev cX4_init : ByteArray := prog_6_method_1_code
def yX4_init : MethodName := ⟨RX4, "<init>", "(LMixfixBench$Tape;LMixfixBench$Book;)V"⟩
abbrev cX4_parse : ByteArray := prog_6_method_2_code
def yX4_parse : MethodName := ⟨RX4, "parse", "(LMixfixBench$Book;)Z"⟩
abbrev cX4_blame : ByteArray := prog_6_method_3_code
def yX4_blame : MethodName := ⟨RX4, "blame", "(II)V"⟩
abbrev cX4_refuse : ByteArray := prog_6_method_4_code
def yX4_refuse : MethodName := ⟨RX4, "refuse", "()V"⟩
abbrev cX4_pass : ByteArray := prog_6_method_5_code
def yX4_pass : MethodName := ⟨RX4, "pass", "(I)Z"⟩
abbrev cX4_parseRank : ByteArray := prog_6_method_6_code
def yX4_parseRank : MethodName := ⟨RX4, "parseRank", "()V"⟩
abbrev cX4_parseTighter : ByteArray := prog_6_method_7_code
def yX4_parseTighter : MethodName := ⟨RX4, "parseTighter", "()V"⟩
abbrev cX4_parseKind : ByteArray := prog_6_method_8_code
def yX4_parseKind : MethodName := ⟨RX4, "parseKind", "()V"⟩
abbrev cX4_passRank : ByteArray := prog_6_method_9_code
def yX4_passRank : MethodName := ⟨RX4, "passRank", "()I"⟩
abbrev cX4_passKind : ByteArray := prog_6_method_10_code
def yX4_passKind : MethodName := ⟨RX4, "passKind", "()I"⟩
abbrev cX4_passName : ByteArray := prog_6_method_11_code
def yX4_passName : MethodName := ⟨RX4, "passName", "(I)I"⟩
abbrev cX4_parseWord : ByteArray := prog_6_method_12_code
def yX4_parseWord : MethodName := ⟨RX4, "parseWord", "()V"⟩
abbrev cX4_parseLean : ByteArray := prog_6_method_13_code
def yX4_parseLean : MethodName := ⟨RX4, "parseLean", "(LMixfixBench$Word;)V"⟩
abbrev cX4_parseElements : ByteArray := prog_6_method_14_code
def yX4_parseElements : MethodName := ⟨RX4, "parseElements", "(LMixfixBench$Word;)Z"⟩
abbrev cX4_parseSteps : ByteArray := prog_6_method_15_code
def yX4_parseSteps : MethodName := ⟨RX4, "parseSteps", "(LMixfixBench$Word;)Z"⟩
abbrev cX4_parseStep : ByteArray := prog_6_method_16_code
def yX4_parseStep : MethodName := ⟨RX4, "parseStep", "(LMixfixBench$Word;I)I"⟩
abbrev cX4_isNumber : ByteArray := prog_6_method_17_code
def yX4_isNumber : MethodName := ⟨RX4, "isNumber", "()Z"⟩
abbrev cX4_isOperation : ByteArray := prog_6_method_18_code
def yX4_isOperation : MethodName := ⟨RX4, "isOperation", "(I)Z"⟩
def RX5 : String := "MixfixBench$Reading"
def TX5 : u_T := fun k => match k with
  | 0 => ("MixfixBench$Reading", "count", "I", false)
  | 1 => ("MixfixBench$Reading", "word", "[I", true)
  | 2 => ("MixfixBench$Reading", "first", "[I", true)
  | 3 => ("MixfixBench$Reading", "length", "[I", true)
  | 4 => ("MixfixBench$Reading", "parent", "[I", true)
  | 5 => ("MixfixBench$Reading", "hole", "[I", true)
  | _ => ("MixfixBench$Reading", "children", "[I", true)
def tyX5 : Nat → FieldType := fun k => match k with
  | 0 => .int
  | 1 => .array .int
  | 2 => .array .int
  | 3 => .array .int
  | 4 => .array .int
  | 5 => .array .int
  | _ => .array .int
theorem nmX5 : ∀ a, a < 7 → ∀ b, b < 7 → a ≠ b → (TX5 a).2.1 ≠ (TX5 b).2.1 := by decide +kernel
theorem tyX5_ok : ∀ k, k < 7 → parseFieldDescriptor (TX5 k).2.2.1 = some (tyX5 k) := by decide +kernel
abbrev cX5_init : ByteArray := prog_7_method_1_code
def yX5_init : MethodName := ⟨RX5, "<init>", "()V"⟩
abbrev cX5_clear : ByteArray := prog_7_method_2_code
def yX5_clear : MethodName := ⟨RX5, "clear", "()V"⟩
abbrev cX5_add : ByteArray := prog_7_method_3_code
def yX5_add : MethodName := ⟨RX5, "add", "(IIIII)I"⟩
def RX6 : String := "MixfixBench$Sentence"
def TX6 : u_T := fun k => match k with
  | 0 => ("MixfixBench$Sentence", "count", "I", false)
  | 1 => ("MixfixBench$Sentence", "texts", "[J", true)
  | _ => ("MixfixBench$Sentence", "draft", "[J", true)
def tyX6 : Nat → FieldType := fun k => match k with
  | 0 => .int
  | 1 => .array .long
  | _ => .array .long
theorem nmX6 : ∀ a, a < 3 → ∀ b, b < 3 → a ≠ b → (TX6 a).2.1 ≠ (TX6 b).2.1 := by decide +kernel
theorem tyX6_ok : ∀ k, k < 3 → parseFieldDescriptor (TX6 k).2.2.1 = some (tyX6 k) := by decide +kernel
abbrev cX6_init : ByteArray := prog_8_method_1_code
def yX6_init : MethodName := ⟨RX6, "<init>", "()V"⟩
abbrev cX6_readFrom : ByteArray := prog_8_method_2_code
def yX6_readFrom : MethodName := ⟨RX6, "readFrom", "(LMixfixBench$Tape;)Z"⟩
abbrev cX6_isNumber : ByteArray := prog_8_method_3_code
def yX6_isNumber : MethodName := ⟨RX6, "isNumber", "(I)Z"⟩
abbrev cX6_numberAt : ByteArray := prog_8_method_4_code
def yX6_numberAt : MethodName := ⟨RX6, "numberAt", "(I)I"⟩
abbrev cX6_isBracketed : ByteArray := prog_8_method_5_code
def yX6_isBracketed : MethodName := ⟨RX6, "isBracketed", "(II)Z"⟩
def RX7 : String := "MixfixBench$Tape"
def TX7 : u_T := fun k => match k with
  | 0 => ("MixfixBench$Tape", "bytes", "[B", true)
  | _ => ("MixfixBench$Tape", "length", "I", false)
def tyX7 : Nat → FieldType := fun k => match k with
  | 0 => .array .byte
  | _ => .int
theorem nmX7 : ∀ a, a < 2 → ∀ b, b < 2 → a ≠ b → (TX7 a).2.1 ≠ (TX7 b).2.1 := by decide +kernel
theorem tyX7_ok : ∀ k, k < 2 → parseFieldDescriptor (TX7 k).2.2.1 = some (tyX7 k) := by decide +kernel
abbrev cX7_init : ByteArray := prog_9_method_1_code
def yX7_init : MethodName := ⟨RX7, "<init>", "()V"⟩
abbrev cX7_append : ByteArray := prog_9_method_2_code
def yX7_append : MethodName := ⟨RX7, "append", "(I)V"⟩
abbrev cX7_byteAt : ByteArray := prog_9_method_3_code
def yX7_byteAt : MethodName := ⟨RX7, "byteAt", "(I)I"⟩
def RX8 : String := "MixfixBench$Word"
def TX8 : u_T := fun k => match k with
  | 0 => ("MixfixBench$Word", "rank", "I", false)
  | 1 => ("MixfixBench$Word", "lean", "I", false)
  | 2 => ("MixfixBench$Word", "kind", "I", false)
  | 3 => ("MixfixBench$Word", "size", "I", false)
  | 4 => ("MixfixBench$Word", "holes", "I", false)
  | 5 => ("MixfixBench$Word", "steps", "I", false)
  | 6 => ("MixfixBench$Word", "bound", "Z", false)
  | 7 => ("MixfixBench$Word", "value", "I", false)
  | 8 => ("MixfixBench$Word", "parts", "[J", true)
  | 9 => ("MixfixBench$Word", "holeAt", "[I", true)
  | 10 => ("MixfixBench$Word", "holeKinds", "[I", true)
  | 11 => ("MixfixBench$Word", "takenWords", "[I", true)
  | 12 => ("MixfixBench$Word", "takenKinds", "[I", true)
  | 13 => ("MixfixBench$Word", "stepSigns", "[I", true)
  | _ => ("MixfixBench$Word", "stepValues", "[I", true)
def tyX8 : Nat → FieldType := fun k => match k with
  | 0 => .int
  | 1 => .int
  | 2 => .int
  | 3 => .int
  | 4 => .int
  | 5 => .int
  | 6 => .boolean
  | 7 => .int
  | 8 => .array .long
  | 9 => .array .int
  | 10 => .array .int
  | 11 => .array .int
  | 12 => .array .int
  | 13 => .array .int
  | _ => .array .int
theorem nmX8 : ∀ a, a < 15 → ∀ b, b < 15 → a ≠ b → (TX8 a).2.1 ≠ (TX8 b).2.1 := by decide +kernel
theorem tyX8_ok : ∀ k, k < 15 → parseFieldDescriptor (TX8 k).2.2.1 = some (tyX8 k) := by decide +kernel
abbrev cX8_init : ByteArray := prog_10_method_1_code
def yX8_init : MethodName := ⟨RX8, "<init>", "()V"⟩
abbrev cX8_clear : ByteArray := prog_10_method_2_code
def yX8_clear : MethodName := ⟨RX8, "clear", "(I)V"⟩
abbrev cX8_addPart : ByteArray := prog_10_method_3_code
def yX8_addPart : MethodName := ⟨RX8, "addPart", "(J)V"⟩
abbrev cX8_mayTakeHole : ByteArray := prog_10_method_4_code
def yX8_mayTakeHole : MethodName := ⟨RX8, "mayTakeHole", "()Z"⟩
abbrev cX8_addHole : ByteArray := prog_10_method_5_code
def yX8_addHole : MethodName := ⟨RX8, "addHole", "(I)V"⟩
abbrev cX8_addStep : ByteArray := prog_10_method_6_code
def yX8_addStep : MethodName := ⟨RX8, "addStep", "(II)V"⟩
abbrev cX8_isHole : ByteArray := prog_10_method_7_code
def yX8_isHole : MethodName := ⟨RX8, "isHole", "(I)Z"⟩
abbrev cX8_ends : ByteArray := prog_10_method_8_code
def yX8_ends : MethodName := ⟨RX8, "ends", "()I"⟩
abbrev cX8_isClosed : ByteArray := prog_10_method_9_code
def yX8_isClosed : MethodName := ⟨RX8, "isClosed", "()Z"⟩
def RX9 : String := "MixfixBench$Worker"
def TX9 : u_T := fun k => match k with
  | 0 => ("MixfixBench$Worker", "sentence", "LMixfixBench$Sentence;", true)
  | 1 => ("MixfixBench$Worker", "reading", "LMixfixBench$Reading;", true)
  | 2 => ("MixfixBench$Worker", "result", "I", false)
  | 3 => ("MixfixBench$Worker", "endedAt", "I", false)
  | 4 => ("MixfixBench$Worker", "values", "[I", true)
  | 5 => ("MixfixBench$Worker", "pile", "[I", true)
  | _ => ("MixfixBench$Worker", "height", "I", false)
def tyX9 : Nat → FieldType := fun k => match k with
  | 0 => .object "MixfixBench$Sentence"
  | 1 => .object "MixfixBench$Reading"
  | 2 => .int
  | 3 => .int
  | 4 => .array .int
  | 5 => .array .int
  | _ => .int
theorem nmX9 : ∀ a, a < 7 → ∀ b, b < 7 → a ≠ b → (TX9 a).2.1 ≠ (TX9 b).2.1 := by decide +kernel
theorem tyX9_ok : ∀ k, k < 7 → parseFieldDescriptor (TX9 k).2.2.1 = some (tyX9 k) := by decide +kernel
abbrev cX9_init : ByteArray := prog_11_method_1_code
def yX9_init : MethodName := ⟨RX9, "<init>", "(LMixfixBench$Sentence;LMixfixBench$Reading;)V"⟩
abbrev cX9_forget : ByteArray := prog_11_method_2_code
def yX9_forget : MethodName := ⟨RX9, "forget", "()V"⟩
def RX10 : String := "MixfixBench"
def TX10 : u_T := fun k => match k with
  | 0 => ("MixfixBench", "tape", "LMixfixBench$Tape;", true)
  | 1 => ("MixfixBench", "inUse", "LMixfixBench$Book;", false)
  | 2 => ("MixfixBench", "spare", "LMixfixBench$Book;", false)
  | 3 => ("MixfixBench", "parser", "LMixfixBench$Parser;", true)
  | 4 => ("MixfixBench", "tokens", "LMixfixBench$Sentence;", true)
  | 5 => ("MixfixBench", "reading", "LMixfixBench$Reading;", true)
  | 6 => ("MixfixBench", "chart", "LMixfixBench$Chart;", true)
  | 7 => ("MixfixBench", "finder", "LMixfixBench$Finder;", true)
  | _ => ("MixfixBench", "worker", "LMixfixBench$Worker;", true)
def tyX10 : Nat → FieldType := fun k => match k with
  | 0 => .object "MixfixBench$Tape"
  | 1 => .object "MixfixBench$Book"
  | 2 => .object "MixfixBench$Book"
  | 3 => .object "MixfixBench$Parser"
  | 4 => .object "MixfixBench$Sentence"
  | 5 => .object "MixfixBench$Reading"
  | 6 => .object "MixfixBench$Chart"
  | 7 => .object "MixfixBench$Finder"
  | _ => .object "MixfixBench$Worker"
theorem nmX10 : ∀ a, a < 9 → ∀ b, b < 9 → a ≠ b → (TX10 a).2.1 ≠ (TX10 b).2.1 := by decide +kernel
theorem tyX10_ok : ∀ k, k < 9 → parseFieldDescriptor (TX10 k).2.2.1 = some (tyX10 k) := by decide +kernel
abbrev cX10_init : ByteArray := prog_1_method_1_code
def yX10_init : MethodName := ⟨RX10, "<init>", "()V"⟩
abbrev cX10_feed : ByteArray := prog_1_method_2_code
def yX10_feed : MethodName := ⟨RX10, "feed", "(IIIII)I"⟩
abbrev cX10_end : ByteArray := prog_1_method_3_code
def yX10_end : MethodName := ⟨RX10, "end", "(I)I"⟩
abbrev cX10_book : ByteArray := prog_1_method_4_code
def yX10_book : MethodName := ⟨RX10, "book", "()I"⟩
abbrev cX10_about : ByteArray := prog_1_method_6_code
def yX10_about : MethodName := ⟨RX10, "about", "(I)I"⟩
abbrev cX10_word : ByteArray := prog_1_method_7_code
def yX10_word : MethodName := ⟨RX10, "word", "(II)I"⟩
abbrev cX10_sentence : ByteArray := prog_1_method_10_code
def yX10_sentence : MethodName := ⟨RX10, "sentence", "()I"⟩
abbrev cX10_count : ByteArray := prog_1_method_11_code
def yX10_count : MethodName := ⟨RX10, "count", "(II)J"⟩
abbrev cX10_quarrel : ByteArray := prog_1_method_12_code
def yX10_quarrel : MethodName := ⟨RX10, "quarrel", "()I"⟩
abbrev cX10_read : ByteArray := prog_1_method_13_code
def yX10_read : MethodName := ⟨RX10, "read", "(J)I"⟩
abbrev cX10_node : ByteArray := prog_1_method_14_code
def yX10_node : MethodName := ⟨RX10, "node", "(II)I"⟩
abbrev cX10_dropReading : ByteArray := prog_1_method_19_code
def yX10_dropReading : MethodName := ⟨RX10, "dropReading", "()V"⟩
abbrev cX10_hasBit : ByteArray := prog_1_method_20_code
def yX10_hasBit : MethodName := ⟨RX10, "hasBit", "(II)Z"⟩
abbrev cX10_isDigit : ByteArray := prog_1_method_21_code
def yX10_isDigit : MethodName := ⟨RX10, "isDigit", "(I)Z"⟩
abbrev cX10_isBlank : ByteArray := prog_1_method_22_code
def yX10_isBlank : MethodName := ⟨RX10, "isBlank", "(I)Z"⟩
abbrev cX10_plus : ByteArray := prog_1_method_23_code
def yX10_plus : MethodName := ⟨RX10, "plus", "(JJ)J"⟩
abbrev cX10_times : ByteArray := prog_1_method_24_code
def yX10_times : MethodName := ⟨RX10, "times", "(JJ)J"⟩
def RX11 : String := "MixfixBenchModel"
def TX11 : u_T := fun k => match k with
  | _ => ("", "", "", false)
def tyX11 : Nat → FieldType := fun k => match k with
  | _ => .int
theorem nmX11 : ∀ a, a < 0 → ∀ b, b < 0 → a ≠ b → (TX11 a).2.1 ≠ (TX11 b).2.1 := by decide +kernel
theorem tyX11_ok : ∀ k, k < 0 → parseFieldDescriptor (TX11 k).2.2.1 = some (tyX11 k) := by decide +kernel
def RL : String := "MixfixBenchLaw"
def yL_cell : MethodName := ⟨RL, "cell", "([II)I"⟩
def yL_put : MethodName := ⟨RL, "put", "(LMixfixBench;J)V"⟩
def yL_isWhole : MethodName := ⟨RL, "isWhole", "(LMixfixBench;I)Z"⟩
abbrev cL_law : ByteArray := code
def X_cl : List vw_C := [(RX0, TX0, 8), (RX1, TX1, 8), (RX2, TX2, 13), (RX3, TX3, 7), (RX4, TX4, 4), (RX5, TX5, 7), (RX6, TX6, 3), (RX7, TX7, 2), (RX8, TX8, 15), (RX9, TX9, 7), (RX10, TX10, 9)]
def X_Rn : List String := [RX0, RX1, RX2, RX3, RX4, RX5, RX6, RX7, RX8, RX9, RX10, RL]
def X_R (o : Nat) : String := X_Rn.getD o ""
def X_ty (ci : Nat) : Nat → FieldType := match ci with
  | 0 => tyX0
  | 1 => tyX1
  | 2 => tyX2
  | 3 => tyX3
  | 4 => tyX4
  | 5 => tyX5
  | 6 => tyX6
  | 7 => tyX7
  | 8 => tyX8
  | 9 => tyX9
  | _ => tyX10
/-- what a new object of each class holds -/
def X_df : List (List Value) := [[.int 0, .int 0, .int 0, .null, .null, .null, .null, .null],
  [.null, .null, .int 0, .null, .null, .null, .null, .null],
  [.null, .null, .null, .int 0, .null, .null, .null, .null, .null, .null, .null, .null, .null],
  [.null, .int 0, .int 0, .null, .null, .null, .int 0],
  [.null, .null, .int 0, .int 0],
  [.int 0, .null, .null, .null, .null, .null, .null],
  [.int 0, .null, .null],
  [.null, .int 0],
  [.int 0, .int 0, .int 0, .int 0, .int 0, .int 0, .int 0, .int 0, .null, .null, .null, .null, .null, .null, .null],
  [.null, .null, .int 0, .int 0, .null, .null, .int 0],
  [.null, .null, .null, .null, .null, .null, .null, .null, .null]]
abbrev X_wci : Nat := 8
abbrev X_lawj : Nat := 120
abbrev X_lawlo : Nat := 117
/-- of each method: how many locals, how many parameters, its class, its type -/
def X_I : List (Nat × Nat × Nat × Option FieldType) := [(2, 0, 0, none),
  (1, 0, 0, none),
  (2, 1, 0, (some .boolean)),
  (2, 1, 0, (some .boolean)),
  (3, 1, 0, (some .int)),
  (3, 1, 0, (some .int)),
  (5, 3, 0, (some .int)),
  (3, 1, 0, none),
  (4, 2, 0, none),
  (5, 2, 0, none),
  (3, 2, 0, (some .boolean)),
  (3, 2, 0, (some .boolean)),
  (1, 0, 0, (some .int)),
  (4, 1, 0, (some .int)),
  (4, 1, 0, (some .int)),
  (6, 0, 0, none),
  (10, 2, 0, (some .int)),
  (3, 2, 1, none),
  (2, 1, 1, none),
  (3, 2, 1, (some .long)),
  (2, 2, 1, (some .int)),
  (3, 3, 1, (some .int)),
  (4, 3, 1, (some .long)),
  (5, 4, 1, (some .long)),
  (4, 3, 1, (some .long)),
  (6, 2, 1, (some .long)),
  (6, 2, 1, (some .long)),
  (3, 0, 1, none),
  (7, 2, 1, none),
  (7, 2, 1, none),
  (7, 2, 1, none),
  (5, 3, 1, none),
  (6, 3, 1, none),
  (12, 4, 1, (some .long)),
  (6, 4, 1, (some .long)),
  (4, 3, 2, none),
  (4, 1, 2, none),
  (5, 4, 2, none),
  (5, 3, 2, none),
  (9, 0, 2, none),
  (8, 1, 2, (some .int)),
  (19, 4, 2, (some .long)),
  (14, 3, 2, none),
  (2, 1, 3, none),
  (1, 0, 3, (some .int)),
  (1, 0, 3, (some .int)),
  (1, 0, 3, (some .long)),
  (3, 1, 3, (some .boolean)),
  (1, 0, 3, none),
  (2, 0, 3, none),
  (2, 1, 3, (some .int)),
  (3, 0, 3, (some .int)),
  (4, 0, 3, (some .int)),
  (5, 0, 3, (some .int)),
  (3, 1, 3, (some .int)),
  (2, 1, 3, (some .boolean)),
  (1, 1, 3, (some .boolean)),
  (1, 1, 3, (some .boolean)),
  (1, 1, 3, (some .boolean)),
  (1, 1, 3, (some .boolean)),
  (3, 2, 4, none),
  (3, 1, 4, (some .boolean)),
  (3, 2, 4, none),
  (1, 0, 4, none),
  (2, 1, 4, (some .boolean)),
  (1, 0, 4, none),
  (4, 0, 4, none),
  (4, 0, 4, none),
  (1, 0, 4, (some .int)),
  (1, 0, 4, (some .int)),
  (2, 1, 4, (some .int)),
  (4, 0, 4, none),
  (2, 1, 4, none),
  (8, 1, 4, (some .boolean)),
  (4, 1, 4, (some .boolean)),
  (9, 2, 4, (some .int)),
  (1, 0, 4, (some .boolean)),
  (1, 1, 4, (some .boolean)),
  (1, 0, 5, none),
  (1, 0, 5, none),
  (7, 5, 5, (some .int)),
  (1, 0, 6, none),
  (7, 1, 6, (some .boolean)),
  (2, 1, 6, (some .boolean)),
  (5, 1, 6, (some .int)),
  (3, 2, 6, (some .boolean)),
  (1, 0, 7, none),
  (3, 1, 7, none),
  (2, 1, 7, (some .int)),
  (1, 0, 8, none),
  (2, 1, 8, none),
  (3, 1, 8, none),
  (1, 0, 8, (some .boolean)),
  (2, 1, 8, none),
  (3, 2, 8, none),
  (2, 1, 8, (some .boolean)),
  (1, 0, 8, (some .int)),
  (1, 0, 8, (some .boolean)),
  (3, 2, 9, none),
  (1, 0, 9, none),
  (1, 0, 10, none),
  (6, 5, 10, (some .int)),
  (2, 1, 10, (some .int)),
  (3, 0, 10, (some .int)),
  (2, 1, 10, (some .int)),
  (4, 2, 10, (some .int)),
  (2, 0, 10, (some .int)),
  (3, 2, 10, (some .long)),
  (5, 0, 10, (some .int)),
  (5, 1, 10, (some .int)),
  (3, 2, 10, (some .int)),
  (1, 0, 10, none),
  (2, 2, 10, (some .boolean)),
  (1, 1, 10, (some .boolean)),
  (1, 1, 10, (some .boolean)),
  (6, 2, 10, (some .long)),
  (4, 2, 10, (some .long)),
  (2, 2, 11, (some .int)),
  (5, 2, 11, none),
  (10, 2, 11, (some .boolean)),
  (12, 1, 11, (some .boolean))]
def X_nL (j : Nat) : Nat := match X_I[j]? with
  | some q => q.1
  | none => 0
def X_na (j : Nat) : Nat := match X_I[j]? with
  | some q => q.2.1
  | none => 0
def X_ci (j : Nat) : Nat := match X_I[j]? with
  | some q => q.2.2.1
  | none => 99
def X_rt (j : Nat) : Option FieldType := match X_I[j]? with
  | some q => q.2.2.2
  | none => none
/-- of each method: its class, its name, the place of its code, frames and locals below it, places of its words: initialized, instanceMethod or static, selects -/
def X_J : List (Nat × MethodName × Nat × Nat × Nat × Nat × Nat × Nat) := [(0, yX0_init, 77, 2, 40, 38, 76, 0),
  (0, yX0_clear, 167, 0, 0, 38, 165, 166),
  (0, yX0_hasKind, 606, 0, 0, 38, 604, 605),
  (0, yX0_hasWord, 901, 0, 0, 38, 899, 900),
  (0, yX0_rankNamed, 548, 1, 24, 38, 546, 547),
  (0, yX0_kindNamed, 593, 1, 24, 38, 591, 592),
  (0, yX0_indexOf, 551, 0, 0, 38, 550, 0),
  (0, yX0_addRank, 555, 0, 0, 38, 553, 554),
  (0, yX0_addKind, 602, 1, 21, 38, 600, 601),
  (0, yX0_setTighter, 583, 2, 43, 38, 581, 582),
  (0, yX0_isTighter, 576, 1, 21, 38, 574, 575),
  (0, yX0_isUnder, 681, 1, 21, 38, 679, 680),
  (0, yX0_numberKind, 775, 0, 0, 38, 773, 774),
  (0, yX0_kindsUnder, 677, 2, 43, 38, 675, 676),
  (0, yX0_wordsOfKinds, 685, 1, 21, 38, 683, 684),
  (0, yX0_settleHoles, 672, 4, 90, 38, 670, 671),
  (0, yX0_wordsFitting, 689, 3, 61, 38, 688, 20),
  (1, yX1_init, 312, 1, 20, 44, 311, 0),
  (1, yX1_startOver, 698, 0, 0, 44, 696, 697),
  (1, yX1_readingsOf, 803, 1, 21, 44, 801, 802),
  (1, yX1_rowOf, 734, 0, 0, 44, 733, 0),
  (1, yX1_tailOf, 746, 0, 0, 44, 745, 0),
  (1, yX1_wordReadings, 842, 1, 21, 44, 840, 841),
  (1, yX1_holeReadings, 750, 1, 21, 44, 748, 749),
  (1, yX1_plainReadings, 836, 2, 50, 44, 834, 835),
  (1, yX1_sumOfKinds, 785, 1, 25, 44, 784, 25),
  (1, yX1_sumOfWords, 791, 1, 25, 44, 790, 26),
  (1, yX1_fill, 727, 5, 128, 44, 725, 726),
  (1, yX1_fillStretch, 731, 4, 102, 44, 730, 22),
  (1, yX1_fillKinds, 762, 2, 50, 44, 761, 24),
  (1, yX1_fillHoles, 795, 2, 50, 44, 794, 27),
  (1, yX1_fillTails, 799, 3, 78, 44, 798, 28),
  (1, yX1_prepareTails, 850, 3, 78, 44, 848, 849),
  (1, yX1_ways, 738, 2, 47, 44, 737, 23),
  (1, yX1_tail, 743, 1, 22, 44, 741, 742),
  (2, yX2_init, 345, 1, 20, 45, 344, 0),
  (2, yX2_find, 815, 5, 131, 45, 813, 814),
  (2, yX2_await, 820, 0, 0, 45, 819, 29),
  (2, yX2_demand, 824, 0, 0, 45, 823, 30),
  (2, yX2_makeNode, 828, 4, 103, 45, 827, 31),
  (2, yX2_chooseWord, 832, 3, 73, 45, 831, 32),
  (2, yX2_splitWord, 854, 2, 47, 45, 853, 33),
  (2, yX2_fillWord, 862, 2, 45, 45, 861, 34),
  (3, yX3_init, 217, 1, 20, 41, 216, 0),
  (3, yX3_sort, 513, 0, 0, 41, 511, 512),
  (3, yX3_place, 535, 0, 0, 41, 533, 534),
  (3, yX3_content, 523, 0, 0, 41, 521, 522),
  (3, yX3_isKeyword, 518, 1, 20, 41, 516, 517),
  (3, yX3_advance, 543, 0, 0, 41, 541, 542),
  (3, yX3_start, 455, 4, 83, 41, 453, 454),
  (3, yX3_takeToken, 466, 3, 62, 41, 465, 0),
  (3, yX3_takeName, 473, 2, 40, 41, 472, 1),
  (3, yX3_takeNumber, 493, 1, 21, 41, 492, 2),
  (3, yX3_takePart, 499, 1, 21, 41, 498, 3),
  (3, yX3_takeSign, 506, 2, 40, 41, 505, 4),
  (3, yX3_isReserved, 482, 0, 0, 41, 481, 0),
  (3, yX3_isLetter, 469, 0, 0, 41, 468, 0),
  (3, yX3_isLetterOrDigit, 476, 1, 20, 41, 475, 0),
  (3, yX3_isPartByte, 502, 0, 0, 41, 501, 0),
  (3, yX3_isSign, 509, 0, 0, 41, 508, 0),
  (4, yX4_init, 211, 2, 41, 40, 210, 0),
  (4, yX4_parse, 450, 5, 116, 40, 448, 449),
  (4, yX4_blame, 539, 0, 0, 40, 538, 7),
  (4, yX4_refuse, 531, 1, 22, 40, 530, 6),
  (4, yX4_pass, 559, 2, 42, 40, 558, 8),
  (4, yX4_parseRank, 527, 3, 63, 40, 526, 5),
  (4, yX4_parseTighter, 564, 3, 67, 40, 563, 9),
  (4, yX4_parseKind, 589, 3, 66, 40, 588, 12),
  (4, yX4_passRank, 568, 2, 46, 40, 567, 10),
  (4, yX4_passKind, 598, 2, 46, 40, 597, 13),
  (4, yX4_passName, 572, 1, 22, 40, 571, 11),
  (4, yX4_parseWord, 611, 4, 93, 40, 610, 14),
  (4, yX4_parseLean, 619, 2, 42, 40, 618, 15),
  (4, yX4_parseElements, 625, 3, 66, 40, 624, 16),
  (4, yX4_parseSteps, 653, 3, 70, 40, 652, 17),
  (4, yX4_parseStep, 657, 2, 42, 40, 656, 18),
  (4, yX4_isNumber, 661, 1, 20, 40, 660, 19),
  (4, yX4_isOperation, 664, 0, 0, 40, 663, 0),
  (5, yX5_init, 278, 1, 20, 43, 277, 0),
  (5, yX5_clear, 702, 0, 0, 43, 700, 701),
  (5, yX5_add, 846, 0, 0, 43, 844, 845),
  (6, yX6_init, 258, 1, 20, 42, 257, 0),
  (6, yX6_readFrom, 714, 1, 26, 42, 712, 713),
  (6, yX6_isNumber, 766, 1, 24, 42, 764, 765),
  (6, yX6_numberAt, 770, 0, 0, 42, 768, 769),
  (6, yX6_isBracketed, 779, 0, 0, 42, 777, 778),
  (7, yX7_init, 60, 1, 20, 37, 59, 0),
  (7, yX7_append, 886, 0, 0, 37, 884, 885),
  (7, yX7_byteAt, 459, 0, 0, 37, 457, 458),
  (8, yX8_init, 84, 1, 20, 39, 83, 0),
  (8, yX8_clear, 615, 0, 0, 39, 613, 614),
  (8, yX8_addPart, 637, 0, 0, 39, 635, 636),
  (8, yX8_mayTakeHole, 629, 1, 21, 39, 627, 628),
  (8, yX8_addHole, 641, 0, 0, 39, 639, 640),
  (8, yX8_addStep, 668, 0, 0, 39, 666, 667),
  (8, yX8_isHole, 633, 0, 0, 39, 631, 632),
  (8, yX8_ends, 649, 1, 21, 39, 647, 648),
  (8, yX8_isClosed, 645, 2, 41, 39, 643, 644),
  (9, yX9_init, 391, 1, 20, 46, 390, 0),
  (9, yX9_forget, 706, 0, 0, 46, 704, 705),
  (10, yX10_init, 52, 3, 63, 36, 51, 0),
  (10, yX10_feed, 882, 1, 22, 36, 880, 881),
  (10, yX10_end, 890, 0, 0, 36, 888, 889),
  (10, yX10_book, 446, 6, 138, 36, 444, 445),
  (10, yX10_about, 877, 0, 0, 36, 875, 876),
  (10, yX10_word, 897, 2, 41, 36, 895, 896),
  (10, yX10_sentence, 710, 2, 52, 36, 708, 709),
  (10, yX10_count, 723, 6, 150, 36, 721, 722),
  (10, yX10_quarrel, 807, 6, 150, 36, 805, 806),
  (10, yX10_read, 811, 6, 154, 36, 809, 810),
  (10, yX10_node, 867, 0, 0, 36, 865, 866),
  (10, yX10_dropReading, 694, 1, 21, 36, 693, 21),
  (10, yX10_hasBit, 579, 0, 0, 36, 578, 0),
  (10, yX10_isDigit, 479, 0, 0, 36, 478, 0),
  (10, yX10_isBlank, 462, 0, 0, 36, 461, 0),
  (10, yX10_plus, 758, 0, 0, 36, 757, 0),
  (10, yX10_times, 753, 0, 0, 36, 752, 0),
  (11, yL_cell, 870, 0, 0, 35, 869, 0),
  (11, yL_put, 873, 2, 47, 35, 872, 0),
  (11, yL_isWhole, 893, 3, 64, 35, 892, 0),
  (11, x, 0, 9, 358, 0, 0, 0)]
/-- of each class: the places of instantiable and initialized -/
def X_K2 : List (Nat × Nat) := [(74, 38), (309, 44), (342, 45), (214, 41), (208, 40), (275, 43), (255, 42), (57, 37), (81, 39), (388, 46), (49, 36)]
/-- the entries of each class: fields, methods; and which kind each method is -/
def X_PF0 : List (Nat × Nat × Nat × Nat) := [(104, 8, 0, 1), (97, 8, 1, 1), (65, 8, 2, 1), (68, 8, 3, 1), (74, 8, 9, 1), (77, 8, 10, 1), (87, 8, 11, 1), (84, 8, 12, 1), (35, 0, 0, 0), (39, 0, 1, 0), (42, 0, 2, 0), (9, 0, 3, 0), (15, 0, 4, 0), (19, 0, 5, 0), (22, 0, 6, 0), (27, 0, 7, 0)]
def X_PM0 : List (Nat × Nat × Nat) := [(31, 89, 1), (32, 1, 0), (47, 6, 0), (59, 112, 1), (55, 10, 0), (51, 2, 0), (71, 95, 0), (80, 13, 0), (62, 11, 0), (90, 14, 0), (93, 16, 0), (100, 97, 0)]
def X_PF1 : List (Nat × Nat × Nat × Nat) := [(126, 8, 3, 1), (114, 8, 4, 1), (132, 8, 8, 1), (141, 8, 9, 1), (123, 8, 11, 1), (119, 8, 12, 1), (48, 0, 1, 1), (62, 0, 2, 1), (110, 0, 7, 1), (65, 6, 0, 1), (135, 6, 1, 1), (32, 1, 0, 0), (36, 1, 1, 0), (9, 1, 2, 0), (15, 1, 3, 0), (19, 1, 4, 0), (22, 1, 5, 0), (26, 1, 6, 0), (29, 1, 7, 0)]
def X_PM1 : List (Nat × Nat × Nat) := [(70, 28, 0), (40, 20, 0), (74, 33, 0), (129, 95, 0), (138, 34, 0), (78, 21, 0), (144, 23, 0), (147, 116, 1), (58, 115, 1), (82, 29, 0), (95, 83, 0), (99, 12, 0), (103, 85, 0), (44, 25, 0), (54, 112, 1), (106, 14, 0), (85, 26, 0), (88, 30, 0), (91, 31, 0)]
def X_PF2 : List (Nat × Nat × Nat × Nat) := [(126, 8, 3, 1), (149, 8, 4, 1), (135, 8, 9, 1), (151, 8, 11, 1), (154, 8, 12, 1), (111, 0, 2, 1), (123, 0, 7, 1), (61, 6, 0, 1), (98, 1, 0, 1), (44, 2, 0, 0), (48, 2, 1, 0), (52, 2, 2, 0), (9, 2, 3, 0), (15, 2, 4, 0), (19, 2, 5, 0), (22, 2, 6, 0), (25, 2, 7, 0), (28, 2, 8, 0), (31, 2, 9, 0), (34, 2, 10, 0), (38, 2, 11, 0), (41, 2, 12, 0)]
def X_PM2 : List (Nat × Nat × Nat) := [(56, 79, 0), (66, 37, 0), (70, 38, 0), (74, 39, 0), (77, 40, 0), (107, 24, 0), (116, 112, 1), (120, 22, 0), (81, 80, 0), (85, 32, 0), (91, 41, 0), (131, 95, 0), (138, 23, 0), (142, 116, 1), (146, 34, 0), (95, 42, 0), (102, 14, 0)]
def X_PF3 : List (Nat × Nat × Nat × Nat) := [(44, 7, 1, 1), (22, 3, 0, 0), (41, 3, 1, 0), (38, 3, 2, 0), (9, 3, 3, 0), (15, 3, 4, 0), (18, 3, 5, 0), (26, 3, 6, 0)]
def X_PM3 : List (Nat × Nat × Nat) := [(49, 88, 0), (53, 114, 1), (57, 50, 0), (60, 56, 0), (63, 51, 0), (78, 57, 0), (66, 113, 1), (81, 55, 0), (69, 52, 0), (72, 53, 0), (89, 58, 0), (75, 54, 0), (92, 59, 0), (30, 44, 0), (34, 46, 0)]
def X_PF4 : List (Nat × Nat × Nat × Nat) := [(154, 8, 1, 1), (147, 8, 2, 1), (164, 8, 3, 1), (161, 8, 4, 1), (183, 8, 5, 1), (83, 0, 0, 1), (112, 0, 1, 1), (131, 0, 2, 1), (134, 0, 7, 1), (23, 4, 0, 0), (27, 4, 1, 0), (9, 4, 2, 0), (15, 4, 3, 0)]
def X_PM4 : List (Nat × Nat × Nat) := [(20, 43, 0), (31, 1, 0), (36, 49, 0), (39, 44, 0), (45, 47, 0), (49, 65, 0), (67, 63, 0), (73, 45, 0), (76, 62, 0), (80, 48, 0), (86, 46, 0), (90, 4, 0), (94, 7, 0), (98, 64, 0), (54, 66, 0), (102, 68, 0), (127, 70, 0), (105, 10, 0), (109, 9, 0), (59, 67, 0), (115, 5, 0), (120, 69, 0), (123, 8, 0), (64, 71, 0), (138, 90, 0), (143, 72, 0), (150, 73, 0), (174, 92, 0), (177, 91, 0), (180, 93, 0), (157, 97, 0), (167, 74, 0), (186, 75, 0), (190, 76, 0), (193, 77, 0), (196, 94, 0), (70, 15, 0)]
def X_PF5 : List (Nat × Nat × Nat × Nat) := [(9, 5, 0, 0), (15, 5, 1, 0), (19, 5, 2, 0), (22, 5, 3, 0), (25, 5, 4, 0), (28, 5, 5, 0), (31, 5, 6, 0)]
def X_PM5 : List (Nat × Nat × Nat) := []
def X_PF6 : List (Nat × Nat × Nat × Nat) := [(22, 7, 1, 1), (9, 6, 0, 0), (15, 6, 1, 0), (19, 6, 2, 0)]
def X_PM6 : List (Nat × Nat × Nat) := [(27, 88, 0), (31, 114, 1), (41, 84, 0)]
def X_PF7 : List (Nat × Nat × Nat × Nat) := [(9, 7, 0, 0), (15, 7, 1, 0)]
def X_PM7 : List (Nat × Nat × Nat) := []
def X_PF8 : List (Nat × Nat × Nat × Nat) := [(34, 8, 0, 0), (38, 8, 1, 0), (41, 8, 2, 0), (44, 8, 3, 0), (47, 8, 4, 0), (50, 8, 5, 0), (53, 8, 6, 0), (57, 8, 7, 0), (9, 8, 8, 0), (15, 8, 9, 0), (19, 8, 10, 0), (22, 8, 11, 0), (25, 8, 12, 0), (28, 8, 13, 0), (31, 8, 14, 0)]
def X_PM8 : List (Nat × Nat × Nat) := [(60, 95, 0), (64, 96, 0)]
def X_PF9 : List (Nat × Nat × Nat × Nat) := [(28, 9, 0, 0), (32, 9, 1, 0), (9, 9, 2, 0), (15, 9, 3, 0), (18, 9, 4, 0), (22, 9, 5, 0), (25, 9, 6, 0)]
def X_PM9 : List (Nat × Nat × Nat) := []
def X_PF10 : List (Nat × Nat × Nat × Nat) := [(76, 7, 1, 1), (118, 8, 0, 1), (123, 8, 1, 1), (126, 8, 2, 1), (129, 8, 3, 1), (132, 8, 4, 1), (139, 8, 5, 1), (103, 0, 0, 1), (106, 0, 1, 1), (94, 0, 2, 1), (114, 0, 7, 1), (88, 6, 0, 1), (109, 5, 0, 1), (175, 5, 1, 1), (179, 5, 2, 1), (182, 5, 3, 1), (184, 5, 4, 1), (187, 5, 5, 1), (12, 10, 0, 0), (19, 10, 1, 0), (23, 10, 2, 0), (31, 10, 3, 0), (38, 10, 4, 0), (45, 10, 5, 0), (54, 10, 6, 0), (63, 10, 7, 0), (72, 10, 8, 0)]
def X_PM10 : List (Nat × Nat × Nat) := [(11, 86, 1), (18, 0, 0), (28, 60, 0), (37, 81, 1), (44, 78, 1), (51, 17, 0), (60, 35, 0), (69, 98, 0), (84, 61, 0), (91, 111, 0), (210, 18, 0), (214, 79, 0), (172, 99, 0), (155, 82, 0), (159, 27, 0), (162, 19, 0), (168, 36, 0), (80, 87, 0), (110, 3, 0), (135, 96, 0)]
def X_PF11 : List (Nat × Nat × Nat × Nat) := []
def X_PM11 : List (Nat × Nat × Nat) := [(37, 100, 0), (84, 103, 0), (98, 106, 0), (101, 107, 0), (113, 108, 0), (105, 109, 0), (30, 110, 0), (42, 117, 0), (24, 118, 0), (7, 104, 0), (15, 101, 0), (19, 102, 0), (109, 119, 0), (34, 105, 0)]
def X_PF : List (List (Nat × Nat × Nat × Nat)) := [X_PF0, X_PF1, X_PF2, X_PF3, X_PF4, X_PF5, X_PF6, X_PF7, X_PF8, X_PF9, X_PF10, X_PF11]
def X_PM : List (List (Nat × Nat × Nat)) := [X_PM0, X_PM1, X_PM2, X_PM3, X_PM4, X_PM5, X_PM6, X_PM7, X_PM8, X_PM9, X_PM10, X_PM11]
def X_KD : List Nat := [2, 0, 0, 0, 0, 0, 1, 0, 0, 0, 0, 0, 0, 0, 0, 0, 0, 2, 0, 0, 1, 1, 0, 0, 0, 0, 0, 0, 0, 0, 0, 0, 0, 0, 0, 2, 0, 0, 0, 0, 0, 0, 0, 2, 0, 0, 0, 0, 0, 0, 0, 0, 0, 0, 0, 1, 1, 1, 1, 1, 2, 0, 0, 0, 0, 0, 0, 0, 0, 0, 0, 0, 0, 0, 0, 0, 0, 1, 2, 0, 0, 2, 0, 0, 0, 0, 2, 0, 0, 2, 0, 0, 0, 0, 0, 0, 0, 0, 2, 0, 2, 0, 0, 0, 0, 0, 0, 0, 0, 0, 0, 0, 1, 1, 1, 1, 1, 1, 1, 1, 9]
abbrev X_lp0 : List Nat := [190, 192, 194, 196, 198, 200, 202, 204]
abbrev X_lp1 : List Nat := [324, 326, 328, 330, 332, 334, 336, 338]
abbrev X_lp2 : List Nat := [360, 362, 364, 366, 368, 370, 372, 374, 376, 378, 380, 382, 384]
abbrev X_lp3 : List Nat := [226, 228, 230, 232, 234, 236, 238]
abbrev X_lp4 : List Nat := [245, 247, 249, 251]
abbrev X_lp5 : List Nat := [293, 295, 297, 299, 301, 303, 305]
abbrev X_lp6 : List Nat := [267, 269, 271]
abbrev X_lp7 : List Nat := [67, 69]
abbrev X_lp8 : List Nat := [131, 133, 135, 137, 139, 141, 143, 145, 147, 149, 151, 153, 155, 157, 159]
abbrev X_lp9 : List Nat := [400, 402, 404, 406, 408, 410, 412]
abbrev X_lp10 : List Nat := [424, 426, 428, 430, 432, 434, 436, 438, 440]
abbrev X_oi : Nat := 54
abbrev X_oc : Nat := 55
abbrev X_an : Nat := 719
abbrev X_as : Nat := 718
abbrev X_ai : Nat := 47
abbrev X_ao : Nat := 80
abbrev X_ap : List Nat := [163, 162, 72]
