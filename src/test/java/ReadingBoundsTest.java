/** The boundary cases of "2. SENTENCES" and of promises 11 to 14, sentence by sentence. */
public final class ReadingBoundsTest {
    private static final int[] FAR = {-1, -2, -100, 31, 32, 64, 100, 256, Integer.MAX_VALUE, Integer.MIN_VALUE};

    public static void main(String[] args) {
        numbersAlone();
        brackets();
        emptyHoles();
        elements();
        sameTokens();
        numberKind();
        deepKinds();
        ends();
        sameRank();
        orderOfWords();
        orderOfEnds();
        orderOfReadings();
        exactCounts();
        countBounds();
        quarrelNone();
        quarrelLeast();
        readBounds();
        readRefused();
        readMany();
        nodeBounds();
        nodesOfFourHoles();
        mostNodes();
        nothingStale();
        Check.finish("ReadingBoundsTest");
    }

    private static void dueCount(String book, String sentence, long want) {
        MixfixBench x = Check.bench(book, sentence);
        Check.due("count of " + sentence + " by " + book, x.count(0, x.about(3)), want);
        Check.due("read(0) of " + sentence + " by " + book, x.read(0) > 0, want != 0);
    }

    /** "A TOKEN of digits alone is a NUMBER (1 to 8 digits)"; "a NUMBER alone". */
    private static void numbersAlone() {
        for (int digits = 1; digits <= 8; digits++) {
            for (String digit : new String[] {"0", "1", "9"}) {
                MixfixBench x = Check.bench("", Check.repeat(digit, digits));
                Check.due("read", x.read(0), 1);
                Check.due("work", x.work(), 0);
                Check.due("worked(0)", x.worked(0), Integer.parseInt(Check.repeat(digit, digits)));
            }
        }
        for (String token : new String[] {"a", "1a", "a1", "1234567a", "a2345678", "1.", "-1", "+1", "/", ":", "1/2"}) {
            dueCount("", token, 0);
        }
        dueCount("", "1 1", 0);
        dueCount("", "", 0);
    }

    /** "BRACKETS: ( , a READING, )". */
    private static void brackets() {
        for (int deep = 1; deep <= 14; deep++) {
            dueCount("", Check.repeat("(", deep) + "1" + Check.repeat(")", deep), 1);
            dueCount("", Check.repeat("(", deep) + Check.repeat(")", deep), 0);
            dueCount("", Check.repeat("(", deep) + "1" + Check.repeat(")", deep - 1), 0);
            dueCount("", Check.repeat("(", deep - 1) + "1" + Check.repeat(")", deep), 0);
        }
        for (String none : new String[] {"(", ")", "()", ")(", "(1", "1)", "1 1)", "(1 1", "(1(", ")1)", ")1(", "(1 1)",
            "(a)", "()1", "1()", "(1)(1)", "(()1)", "((1)"}) {
            dueCount("", none, 0);
            dueCount("rank r; word r: \"a\" _; word r: _ \"b\";", none, 0);
        }
        dueCount("rank r; word r: \"b\"; word r: \"b\";", "((b))", 2);
    }

    /** "each HOLE a READING of one TOKEN or more". */
    private static void emptyHoles() {
        dueCount("rank r; word r: \"a\" _;", "a", 0);
        dueCount("rank r; word r: \"a\" _;", "a 1", 1);
        dueCount("rank r; word r: _ \"a\";", "a", 0);
        dueCount("rank r; word r: _ \"a\";", "1 a", 1);
        dueCount("rank r; word r: \"a\" _ \"b\";", "a b", 0);
        dueCount("rank r; word r: \"a\" _ \"b\";", "a 1 b", 1);
        dueCount("rank r; word r: \"a\" _ \"b\";", "a () b", 0);
        dueCount("rank r; word r: \"a\" _ \"b\";", "a 1 1 b", 0);
        dueCount("rank r; word r: _ \"a\" _;", "1 a", 0);
        dueCount("rank r; word r: _ \"a\" _;", "a 1", 0);
    }

    /** "its elements one by one": one, eight, all thirty tokens; none too few, none too many. */
    private static void elements() {
        dueCount("rank r; word r: \"a\";", "a", 1);
        dueCount("rank r; word r: \"a\";", "a a", 0);
        String eight = "rank r; word r: \"a\"\"b\"\"c\"\"d\"\"e\"\"f\"\"g\"\"h\";";
        dueCount(eight, "a b c d e f g h", 1);
        dueCount(eight, "a b c d e f g", 0);
        dueCount(eight, "b c d e f g h", 0);
        dueCount(eight, "a b c d e f g h h", 0);
        dueCount(eight, "a b c d e f g g", 0);
        dueCount(eight, "b a c d e f g h", 0);
        String holes = "rank r; word r: \"a\" _ \"b\" _ \"c\" _ \"d\" _;";
        dueCount(holes, "a 1 b 2 c 3 d 4", 1);
        dueCount(holes, "a 1 b 2 c 3 d", 0);
        dueCount(holes, "a 1 b 2 c 3 4", 0);
        dueCount(holes, "a (((1))) b ((2)) c (((3))) d (4)", 1);
        String chain = "rank r; word r right: \"a\" _; word r left: _ \"b\";";
        dueCount(chain, Check.repeat("a ", 29) + "1", 1);
        dueCount(chain, "1 " + Check.repeat("b ", 29), 1);
        dueCount(chain, Check.repeat("a ", 30), 0);
        dueCount(chain, "1 a 1", 0);
    }

    /** "PARTS the same TOKENS". */
    private static void sameTokens() {
        String book = "rank r; word r: \"abcdefgh\"; word r: \"!\"; word r: \"~\"; word r: \"1234567a\";";
        for (String token : new String[] {"abcdefgh", "!", "~", "1234567a"}) {
            dueCount(book, token, 1);
        }
        for (String token : new String[] {"abcdefg", "bcdefgh", "abcdefgi", "bbcdefgh", "ABCDEFGH", "abcdefgH", "!!", "\"!\"",
            "1234567", "234567a", "1234567b"}) {
            dueCount(book, token, token.equals("1234567") ? 1 : 0);
        }
        dueCount("rank r; word r: \"ab\";", "a b", 0);
        dueCount("rank r; word r: \"a\" \"b\";", "ab", 0);
    }

    /** "of a NUMBER KIND 1 (all if there is none)". */
    private static void numberKind() {
        String is = "rank r; word r: \"is\" _ #; word r: \"in\" _ # \"!\";";
        String[] kinds = {"", "kind k;", "kind k; kind l;", "kind l; kind k;", "kind k; kind l under k;", "kind l; kind k under l;"};
        String[] holes = {"", "all", "k", "l"};
        String[] want = {"11..", "111.", "1110", "1101", "1110", "1101"};
        for (int n = 0; n < kinds.length; n++) {
            for (int h = 0; h < holes.length; h++) {
                if (want[n].charAt(h) != '.') {
                    String book = kinds[n] + is.replace("#", holes[h]);
                    dueCount(book, "is 1", want[n].charAt(h) - '0');
                    dueCount(book, "in 1 !", want[n].charAt(h) - '0');
                    dueCount(book, "is ((1))", want[n].charAt(h) - '0');
                }
            }
        }
    }

    /** "whose KIND is its own, or under it (at any depth; all are under all)". */
    private static void deepKinds() {
        StringBuilder book = new StringBuilder("rank r; kind a;");
        for (char kind = 'b'; kind <= 'j'; kind++) {
            book.append("kind " + kind + " under " + (char) (kind - 1) + ";");
        }
        book.append(Check.many("word r #: \"#\";", 10)).append("word r all: \"all\";");
        for (char hole = 'a'; hole <= 'j'; hole++) {
            MixfixBench x = Check.bench(book + "word r: \"is\" _ " + hole + ";", "is all");
            Check.due("count: all is not under a told kind", x.count(0, 2), 0);
            for (char kind = 'a'; kind <= 'j'; kind++) {
                Check.sentence(x, "is " + kind);
                Check.due("count: " + kind + " in " + hole, x.count(0, 2), kind >= hole ? 1 : 0);
                Check.sentence(x, "is (" + kind + ")");
                Check.due("count: " + kind + " in " + hole, x.count(0, 4), kind >= hole ? 1 : 0);
            }
        }
        // ten kinds, and all: what is of kind all stays so in brackets
        dueCount(book + "word r: \"is\" _;", "is all", 1);
        dueReadings(book + "word r: \"is\" _;", "((all))", "-3 -3 10");
        dueReadings(book + "word r: \"is\" _;", "is ((all))", "11 -3 -3 10");
        dueReadings(book + "word r: \"is\" _; word r: _ \"+\" _;", "(all) + (((all)))", "12 -3 10 -3 -3 -3 10");
        dueCount(book.toString(), Check.repeat("(", 14) + "j" + Check.repeat(")", 14) + " 1", 0);
        dueCount(book + "word r: \"is\" _;", "is " + Check.repeat("(", 14) + "all" + Check.repeat(")", 14), 1);
        dueCount(book + "word r: \"is\" _ all;", "is j", 1);
    }

    /** "An END takes, moreover, just NUMBERS, BRACKETS, WORDs without ENDS, those of a RANK that is TIGHTER". */
    private static void ends() {
        String ranks = "rank lo; rank hi; rank off; kind k; kind l; tighter hi lo;";
        String[] ends = {"word lo k: \"f\" _ ;", "word lo k: _ \"f\";", "word lo k: \"f\" _ \"g\";"};
        String[] around = {"f #", "# f", "f # g"};
        for (int n = 0; n < 3; n++) {
            long inner = n == 2 ? 1 : 0;
            String book = ranks + ends[n];
            dueCount(book, around[n].replace("#", "1"), 1);
            dueCount(book + "word lo: \"x\" _;", around[n].replace("#", "(x 1)"), 1);
            dueCount(book + "word lo: \"x\" _;", around[n].replace("#", "x 1"), inner);
            dueCount(book + "word off: \"x\" _;", around[n].replace("#", "x 1"), inner);
            dueCount(book + "word hi: \"x\" _;", around[n].replace("#", "x 1"), 1);
            dueCount(book + "word hi: _ \"x\";", around[n].replace("#", "1 x"), 1);
            dueCount(book + "word hi: _ \"x\" _;", around[n].replace("#", "1 x 1"), 1);
            dueCount(book + "word lo: \"x\";", around[n].replace("#", "x"), 1);
            dueCount(book + "word off: \"x\" _ \"y\";", around[n].replace("#", "x 1 y"), 1);
            // "moreover": the kind must be right, too
            String kind = book.replace("_", "_ l");
            dueCount(kind, around[n].replace("#", "1"), 0);
            dueCount(kind + "word hi k: \"x\" _;", around[n].replace("#", "x 1"), 0);
            dueCount(kind + "word hi l: \"x\" _;", around[n].replace("#", "x 1"), 1);
            dueCount(kind + "word lo l: \"x\" _;", around[n].replace("#", "x 1"), inner);
            dueCount(kind + "word off k: \"x\";", around[n].replace("#", "(x)"), 0);
            dueCount(kind + "word off l: \"x\";", around[n].replace("#", "(x)"), 1);
        }
    }

    /** "the first one if the WORD is left, the last one if it is right, those of the same RANK". */
    private static void sameRank() {
        String[] leans = {"", " left", " right"};
        for (int lean = 0; lean < 3; lean++) {
            String book = "rank r; word r" + leans[lean] + ": _ \"+\" _; word r: \"x\" _; word r: _ \"y\";";
            dueCount(book, "x 1 + 2", lean == 1 ? 1 : 0);
            dueCount(book, "1 y + 2", lean == 1 ? 1 : 0);
            dueCount(book, "1 + x 2", lean == 2 ? 1 : 0);
            dueCount(book, "1 + 2 y", lean == 2 ? 1 : 0);
            dueCount(book, "1 y + x 2", 0);
            dueCount(book, "1 + 2 + 3", lean == 0 ? 0 : 1);
            dueCount("rank r; word r" + leans[lean] + ": \"-\" _;", "- - 1", lean == 2 ? 1 : 0);
            dueCount("rank r; word r" + leans[lean] + ": _ \"!\";", "1 ! !", lean == 1 ? 1 : 0);
        }
    }

    private static void dueReadings(String book, String sentence, String... want) {
        MixfixBench x = Check.bench(book, sentence);
        Check.due("count of " + sentence, x.count(0, x.about(3)), want.length);
        for (int k = 0; k < want.length; k++) {
            x = Check.bench(book, sentence);
            x.read(k);
            Check.dueWords("read(" + k + ") of " + sentence, x, want[k]);
        }
        Check.due("read(" + want.length + ")", x.read(want.length), -1);
    }

    /** "in ORDER: by their WORD". */
    private static void orderOfWords() {
        StringBuilder book = new StringBuilder("rank r;");
        String[] want = new String[30];
        for (int w = 0; w < 30; w++) {
            book.append("word r:\"a\";");
            want[w] = "" + w;
        }
        dueReadings(book.toString(), "a", want);
        dueReadings("rank r; word r: \"b\"; word r: \"a\"; word r: \"b\"; word r: \"a\" _; word r: \"a\";", "(a)",
            "-3 1", "-3 4");
    }

    /** "of one WORD by where its first HOLE ends, then the second, and on, the least first". */
    private static void orderOfEnds() {
        String book = "rank a; rank b; tighter a b; word b: \"[\" _ \",\" _ \",\" _ \"]\"; word a left: _ \",\" _;";
        MixfixBench x = Check.bench(book, "[ 1 , 2 , 3 , 4 , 5 ]");
        Check.due("count", x.count(0, 11), 6);
        int[][] sizes = {{1, 1, 5}, {1, 3, 3}, {1, 5, 1}, {3, 1, 3}, {3, 3, 1}, {5, 1, 1}};
        for (int k = 0; k < 6; k++) {
            Check.due("read(" + k + ")", x.read(k), 8);
            int node = 1;
            for (int hole = 0; hole < 3; hole++) {
                Check.due("hole " + hole + " of read(" + k + ")", x.node(node, 4), hole);
                Check.due("its node is in the first one", x.node(node, 3), 0);
                Check.due("its tokens", x.node(node, 2), sizes[k][hole]);
                node += sizes[k][hole];
            }
        }
        Check.due("read(6)", x.read(6), -1);
    }

    /** "then by the READING of the first HOLE, in ORDER, then the second, and on". */
    private static void orderOfReadings() {
        String book = "rank r; word r: \"[\" _ \",\" _ \",\" _ \"]\"; word r: \"a\"; word r: \"b\"; word r: \"a\";";
        dueReadings(book, "[ a , a , a ]", "0 1 1 1", "0 1 1 3", "0 1 3 1", "0 1 3 3", "0 3 1 1", "0 3 1 3", "0 3 3 1",
            "0 3 3 3");
        dueReadings(book, "[ b , a , 7 ]", "0 2 1 -2", "0 2 3 -2");
        dueReadings(book, "[ (a) , 7 , a ]", "0 -3 1 -2 1", "0 -3 1 -2 3", "0 -3 3 -2 1", "0 -3 3 -2 3");
        // brackets pass on what the hole takes
        dueReadings("rank r; kind k; kind l; word r k: \"a\"; word r l: \"a\"; word r l: \"a\"; word r: \"is\" _ l;", "is ((a))",
            "3 -3 -3 1", "3 -3 -3 2");
        // four holes
        dueReadings("rank r; word r: \"a\"; word r: \"a\"; word r: _ \"+\" _ \"+\" _ \"+\" _ \"!\";", "a + 1 + 1 + a !",
            "2 0 -2 -2 0", "2 0 -2 -2 1", "2 1 -2 -2 0", "2 1 -2 -2 1");
    }

    private static String prefixes(int words) {
        return "rank r;" + Check.repeat("word r right:\"a\"_;", words);
    }

    /** "Numbers are exact, what is above 9223372036854775807 is told as -2." */
    private static void exactCounts() {
        for (int shift = 3; shift <= 60; shift += 3) {
            dueCount(prefixes(8), Check.repeat("a ", shift / 3) + "1", 1L << shift);
        }
        // 2 to the 62nd, 63rd, 64th, and on: what wraps around to 0, or to a small one, is above, too
        String four = "word r: \"z\"; word r: \"z\"; word r: \"z\"; word r: \"z\";";
        dueCount(prefixes(8) + four, Check.repeat("a ", 20) + "z", 1L << 62);
        dueCount(prefixes(8), Check.repeat("a ", 21) + "1", -2);
        dueCount(prefixes(16), Check.repeat("a ", 16) + "1", -2);
        dueCount(prefixes(16), Check.repeat("a ", 29) + "1", -2);
        dueCount(prefixes(30), Check.repeat("a ", 12) + "1", 531441000000000000L);
        dueCount(prefixes(30), Check.repeat("a ", 13) + "1", -2);
        dueCount(prefixes(30), Check.repeat("a ", 29) + "1", -2);
        dueCount(prefixes(7), Check.repeat("a ", 22) + "1", 3909821048582988049L);
        dueCount(prefixes(7), Check.repeat("a ", 23) + "1", -2);
        // as products: a hole with too many, beside one with some, and beside one with none
        String product = "rank r; rank s; tighter s r; kind k; kind l; word r: _ \"+\" _ #;"
            + Check.repeat("word s right:\"a\"_;", 16);
        String[] sides = {"1", "a 1", Check.repeat("a ", 7) + "1", Check.repeat("a ", 8) + "1", Check.repeat("a ", 12) + "1",
            Check.repeat("a ", 16) + "1"};
        int[] powers = {0, 4, 28, 32, 48, 64};
        for (int left = 0; left < sides.length; left++) {
            for (int right = 0; right < sides.length && left + right < 10; right++) {
                String sentence = sides[left] + " + " + sides[right];
                if (Check.sentence(new MixfixBench(), sentence) > 0) {
                    int power = powers[left] + powers[right];
                    dueCount(product.replace("#", ""), sentence, power < 63 ? 1L << power : -2);
                    dueCount(product.replace("#", "l"), sentence, 0);
                }
            }
        }
        // the greatest that is told, and one more, as sums of two
        String book = "rank r; kind k; kind x; kind y;" + Check.repeat("word r right x:\"a\"_ x;", 8)
            + Check.repeat("word r right x:\"a\"_ y;", 7) + "word r right y:\"a\"_ y; word r y:\"z\"; word r:\"[\"_ x\"]\";";
        dueCount(book, "[ " + Check.repeat("a ", 21) + "z ]", Long.MAX_VALUE);
        dueCount(book, "([ " + Check.repeat("a ", 21) + "z ])", Long.MAX_VALUE);
        String more = book + "word r x:\"{\"_ x\"}\"; word r x:\"{\"_ y\"}\";";
        dueCount(more, "[ { " + Check.repeat("a ", 21) + "z } ]", -2);
        dueCount(more, "{ " + Check.repeat("a ", 21) + "z }", -2);
        dueCount(more, "([ { " + Check.repeat("a ", 21) + "z } ])", -2);
    }

    /** "How many READINGS the TOKENS from i up to j, not j, have (0 if there are none such)." */
    private static void countBounds() {
        for (int tokens : new int[] {0, 1, 2, 30}) {
            MixfixBench x = Check.bench("rank r; word r: \"a\" _;", tokens == 0 ? "" : Check.repeat("1 ", tokens - 1) + "1");
            for (int i : new int[] {-1, 0, tokens - 1, tokens, tokens + 1, 29, 30, 31}) {
                for (int j : new int[] {-1, 0, 1, tokens - 1, tokens, tokens + 1, 30, 31}) {
                    Check.due("count(" + i + ", " + j + ") of " + tokens, x.count(i, j), i >= 0 && j == i + 1 && j <= tokens ? 1 : 0);
                }
            }
            for (int far : FAR) {
                Check.due("count(" + far + ", 1)", x.count(far, 1), 0);
                Check.due("count(0, " + far + ")", x.count(0, far), 0);
                Check.due("count(" + far + ", " + far + ")", x.count(far, far), 0);
                Check.due("count(" + far + ", one more)", x.count(far, far + 1), 0);
            }
        }
        MixfixBench x = Check.bench("rank r; word r right: \"a\" _;", Check.repeat("a ", 29) + "1");
        for (int i = 0; i < 30; i++) {
            Check.due("count(" + i + ", 30)", x.count(i, 30), 1);
            Check.due("count(" + i + ", 29)", x.count(i, 29), 0);
            Check.due("count(" + i + ", " + i + ")", x.count(i, i), 0);
            Check.due("count(30, " + i + ")", x.count(30, i), 0);
        }
    }

    private static void dueQuarrel(String book, String sentence, int want) {
        Check.due("quarrel of " + sentence + " by " + book, Check.bench(book, sentence).quarrel(), want);
    }

    /** "NONE without." */
    private static void quarrelNone() {
        String book = "rank r; word r right: \"a\" _; word r: \"b\"; word r: \"c\"; word r: \"c\";";
        Check.due("quarrel of a new object", new MixfixBench().quarrel(), -1);
        dueQuarrel("", "", -1);
        dueQuarrel("", "1", -1);
        dueQuarrel("", "x", -1);
        dueQuarrel(book, "", -1);
        dueQuarrel(book, "1", -1);
        dueQuarrel(book, "(b)", -1);
        dueQuarrel(book, Check.repeat("a ", 29) + "b", -1);
        dueQuarrel(book, Check.repeat("a ", 30), -1);
        dueQuarrel(book, Check.repeat("(", 30), -1);
    }

    /** "The least stretch (by how many TOKENS, then by its first) that has more than one READING". */
    private static void quarrelLeast() {
        String book = "rank r; word r right: \"a\" _; word r: \"c\"; word r: \"c\"; word r right: \"d\" _; word r right: \"d\" _;"
            + "word r: \"e\" \"f\" \"g\"; word r: \"e\" \"f\" _; word r: \"g\";";
        for (int first = 0; first < 30; first++) {
            dueQuarrel(book, Check.repeat("a ", first) + "c" + Check.repeat(" x", 29 - first), 100 * first + 1);
        }
        for (int first = 0; first < 29; first++) {
            dueQuarrel(book, Check.repeat("a ", first) + "d 1" + Check.repeat(" x", 28 - first), 100 * first + 2);
        }
        dueQuarrel(book, "c c", 1);
        dueQuarrel(book, "d 1 x d 1", 2);
        dueQuarrel(book, "d 1 x c", 301);
        dueQuarrel(book, "e f g d 1", 302);
        dueQuarrel(book, "e f g e f g", 3);
        dueQuarrel(book, "x e f g e f g", 103);
        // just the whole sentence is read in two ways, and three are more than one, too
        String whole = "rank r; word r: \"x\" _ \"x\"; word r: _ \"y\" _; word r: \"x\" _;";
        String all = "rank r; word r: \"a\" \"a\" \"a\" \"a\" \"a\" \"a\" \"a\" \"a\";";
        dueQuarrel(all + Check.repeat("word r: \"a\" \"a\" \"a\" \"a\" \"a\" \"a\" \"a\" \"a\";", 2), "a a a a a a a a", 8);
        dueQuarrel(whole, "x 1 x", -1);
        dueQuarrel(prefixes(30), Check.repeat("a ", 29) + "1", 2802);
        String deep = Check.repeat("(", 14) + "1" + Check.repeat(")", 14);
        dueQuarrel("rank r; word r: \"x\" _; word r: \"x\" _;", "x " + deep, 30);
        dueQuarrel("rank r; word r: _ \"x\"; word r: _ \"x\";", deep + "x", 30);
    }

    /** "READING k of the whole SENTENCE is THE READING: how many NODES; NONE .. there is none such." */
    private static void readBounds() {
        for (int words : new int[] {0, 1, 2, 30}) {
            MixfixBench x = Check.bench("rank r;" + Check.repeat("word r:\"a\";", words), "a");
            long[] none = {-1, words, words + 1, 1L << 32, (1L << 32) + words - 1, Long.MAX_VALUE, Long.MIN_VALUE, -(1L << 32)};
            for (long k : none) {
                Check.due("read(" + k + ") of " + words, x.read(k), -1);
                Check.due("about(4)", x.about(4), 0);
            }
            for (int k = 0; k < words; k++) {
                Check.due("read(" + k + ")", x.read(k), 1);
                Check.due("node(0, 0)", x.node(0, 0), k);
            }
        }
        MixfixBench x = new MixfixBench();
        Check.due("read(0) of an empty sentence", x.read(0), -1);
        x = Check.bench("rank r; word r: \"a\" _;", "a 1 1");
        Check.due("read(0): a stretch has one, the whole sentence none", x.read(0), -1);
        Check.due("count", x.count(0, 2), 1);
    }

    /** "NONE, doing nothing". */
    private static void readRefused() {
        for (long k : new long[] {2, 3, -1, Long.MAX_VALUE, Long.MIN_VALUE, 1L << 32}) {
            MixfixBench x = Check.bench("rank r; word r: \"b\" _ = @1 1 +; word r: \"a\" = 4; word r: \"a\" = 5;", "b a");
            x.read(1);
            x.work();
            String before = Check.picture(x);
            Check.due("read(" + k + ")", x.read(k), -1);
            Check.dueText("after the refused read(" + k + ")", Check.picture(x), before);
            Check.due("worked(0)", x.worked(0), 6);
            Check.due("about(3)", x.about(3), 2);
        }
    }

    /** Of more READINGS than are told each that a long can number can be read. */
    private static void readMany() {
        MixfixBench x = Check.bench(prefixes(16), Check.repeat("a ", 29) + "1");
        Check.due("count", x.count(0, 30), -2);
        for (long k : new long[] {0, 1, 15, 16, 255, (1L << 32) - 1, 1L << 32, Long.MAX_VALUE - 1, Long.MAX_VALUE}) {
            Check.due("read(" + k + ")", x.read(k), 30);
            for (int n = 0; n < 29; n++) {
                int shift = 4 * (28 - n);
                Check.due("node(" + n + ") of read(" + k + ")", x.node(n, 0), shift > 60 ? 0 : k >> shift & 15);
            }
            x = Check.bench(prefixes(16), Check.repeat("a ", 29) + "1");
        }
        Check.due("read(-1)", x.read(-1), -1);
        Check.due("read(least)", x.read(Long.MIN_VALUE), -1);
        Check.due("read(-2)", x.read(-2), -1);
        manySplits();
    }

    /** A word whose holes end in more than one way, each way having 2 to the 62nd readings, or too many. */
    private static void manySplits() {
        String book = "rank o; rank i; rank p; tighter p i; tighter i o; word i left: _ \",\" _;"
            + Check.repeat("word p right:\"a\"_;", 8) + Check.repeat("word p:\"z\";", 4) + "word o: \"[\" _ \",\" _ \"]\";"
            + "word o: \"[\" _ \",\" _ \",\" _ \"]\";";
        String first = "13 " + Check.repeat("1 ", 20) + "9 0 -2 -2";
        String second = "13 0 " + Check.repeat("1 ", 20) + "9 -2 -2";
        MixfixBench x = Check.bench(book, "[ " + Check.repeat("a ", 20) + "z , 1 , 1 ]");
        Check.due("count: three times 2 to the 62nd", x.count(0, x.about(3)), -2);
        Check.due("read", x.read(0), 25);
        Check.dueWords("read(0)", x, first);
        Check.due("read", x.read((1L << 62) - 1), 25);
        Check.dueWords("the last one of the first split", x, first.replace(" 1", " 8").replace("9", "12"));
        Check.due("read", x.read(1L << 62), 25);
        Check.dueWords("the first one of the second split", x, second);
        Check.due("read", x.read(Long.MAX_VALUE), 25);
        Check.dueWords("the last one of the second split", x, second.replace(" 1", " 8").replace("9", "12"));
        // too many in the first hole: the least split has them all
        x = Check.bench(book, "[ " + Check.repeat("a ", 21) + "z , 1 , 1 , 1 ]");
        x.read(Long.MAX_VALUE);
        Check.dueWords("2 to the 63rd less 1", x, "13 2 " + Check.repeat("8 ", 20) + "12 0 0 -2 -2 -2");
        x = Check.bench(book.replace("word o: \"[\" _ \",\" _ \"]\";", ""), "[ " + Check.repeat("a ", 21) + "z , 1 , 1 , 1 ]");
        x.read(Long.MAX_VALUE);
        Check.dueWords("2 to the 63rd less 1", x, "13 2 " + Check.repeat("8 ", 20) + "12 -2 0 -2 -2");
    }

    /** "3: the NODE that it is in (NONE), 4: which HOLE of that .. NONE if there is none such." */
    private static void nodeBounds() {
        MixfixBench x = Check.bench("rank r; word r: _ \"+\" _;", "(1) + 2");
        for (int what = -1; what < 6; what++) {
            Check.due("node(0, " + what + ") without a reading", x.node(0, what), -1);
            Check.due("node(-1, " + what + ") without a reading", x.node(-1, what), -1);
        }
        Check.due("read", x.read(0), 4);
        int[][] want = {{0, 0, 5, -1, -1}, {-3, 0, 3, 0, 0}, {-2, 1, 1, 1, 0}, {-2, 4, 1, 0, 1}};
        for (int n = 0; n < 4; n++) {
            for (int what = 0; what < 5; what++) {
                Check.due("node(" + n + ", " + what + ")", x.node(n, what), want[n][what]);
            }
        }
        for (int what = 0; what < 5; what++) {
            Check.due("node behind the last", x.node(4, what), -1);
            for (int far : FAR) {
                Check.due("node(" + far + ", " + what + ")", x.node(far, what), -1);
            }
        }
        for (int far : FAR) {
            Check.due("node(0, " + far + ")", x.node(0, far), -1);
        }
        Check.due("node(0, 5)", x.node(0, 5), -1);
        x = Check.bench("", "1");
        Check.due("read", x.read(0), 1);
        int[] alone = {-2, 0, 1, -1, -1};
        for (int what = 0; what < 5; what++) {
            Check.due("a number alone: node(0, " + what + ")", x.node(0, what), alone[what]);
        }
        Check.due("a number alone: node(1, 0)", x.node(1, 0), -1);
        x = Check.bench("", "(1)");
        Check.due("read", x.read(0), 2);
        Check.due("brackets alone: node(0, 3)", x.node(0, 3), -1);
        Check.due("brackets alone: node(0, 4)", x.node(0, 4), -1);
        Check.due("brackets alone: node(1, 4)", x.node(1, 4), 0);
    }

    /** "a NODE, then those of its HOLES one by one". */
    private static void nodesOfFourHoles() {
        MixfixBench x = Check.bench("rank r; rank s; tighter s r; word r: \"a\" _ \"b\" _ \"c\" _ \"d\" _; word s: _ \"+\" _;",
            "a 1 + 2 b 3 c 4 + 5 d 6 + 7");
        Check.due("read", x.read(0), 11);
        int[] parents = {-1, 0, 1, 1, 0, 0, 5, 5, 0, 8, 8};
        int[] holes = {-1, 0, 0, 1, 1, 2, 0, 1, 3, 0, 1};
        int[] firsts = {0, 1, 1, 3, 5, 7, 7, 9, 11, 11, 13};
        for (int n = 0; n < 11; n++) {
            Check.due("node(" + n + ", 3)", x.node(n, 3), parents[n]);
            Check.due("node(" + n + ", 4)", x.node(n, 4), holes[n]);
            Check.due("node(" + n + ", 1)", x.node(n, 1), firsts[n]);
        }
    }

    /** As many nodes as tokens, each in the one before; a reading with fewer takes their place. */
    private static void mostNodes() {
        MixfixBench x = Check.bench("rank r; word r right: \"a\" _; word r: \"[\" _ \"]\";", Check.repeat("a ", 29) + "1");
        Check.due("read", x.read(0), 30);
        Check.due("about(4)", x.about(4), 30);
        for (int n = 0; n < 30; n++) {
            Check.due("node(" + n + ", 1)", x.node(n, 1), n);
            Check.due("node(" + n + ", 2)", x.node(n, 2), 30 - n);
            Check.due("node(" + n + ", 3)", x.node(n, 3), n - 1);
            Check.due("node(" + n + ", 4)", x.node(n, 4), n == 0 ? -1 : 0);
        }
        Check.due("node(30, 0)", x.node(30, 0), -1);
        Check.sentence(x, "a 1");
        Check.due("read", x.read(0), 2);
        Check.due("about(4)", x.about(4), 2);
        Check.due("node(2, 0)", x.node(2, 0), -1);
    }

    /** What was counted for another sentence, or by another book, is no reading of this one. */
    private static void nothingStale() {
        MixfixBench x = Check.bench("rank r; word r: \"-\" _; word r left: _ \"+\" _;", "- 1 + 1");
        Check.due("count", x.count(0, 2), 1);
        Check.due("quarrel", x.quarrel(), -1);
        String[] sentences = {"()", "(1)", "( )", "1 + 1", "(1 + 1)", "( )", "1", "1 1", "-", "1 +", "(()", "+ 1 +", "- 1", "()()", "1 + 1",
            "- ()", "(1) + 1", "1 + ()", "- ( )"};
        long[] want = {0, 1, 0, 1, 1, 0, 1, 0, 0, 0, 0, 0, 1, 0, 1, 0, 1, 0, 0};
        for (int n = 0; n < sentences.length; n++) {
            int tokens = Check.sentence(x, sentences[n]);
            Check.due("count of " + sentences[n], x.count(0, tokens), want[n]);
            Check.due("read(0) of " + sentences[n], x.read(0) > 0, want[n] > 0);
        }
        Check.book(x, "rank r; word r: \"-\";");
        Check.due("sentence", Check.sentence(x, "- 1"), 2);
        Check.due("count: by the new book", x.count(0, 2), 0);
        Check.due("count: by the new book", x.count(0, 1), 1);
        // with fewer kinds: what was counted by kind is gone, too
        String kinds = "rank r; kind k; kind l; kind m; word r m: \"x\"; word r l: \"y\"; word r k: \"z\"; word r: \"w\";";
        for (String fewer : new String[] {"", "kind k;", "kind k; kind l;", "rank r; word r: \"v\";"}) {
            Check.book(x, kinds);
            Check.sentence(x, "(x) (y) (z) (w) 1");
            Check.due("count by more kinds", x.count(0, 3) + x.count(3, 6) + x.count(6, 9) + x.count(9, 12) + x.count(12, 13), 5);
            Check.book(x, fewer);
            Check.sentence(x, "- - - - - - - - - - - - -");
            Check.due("quarrel", x.quarrel(), -1);
            Check.due("count by fewer kinds", x.count(0, 3) + x.count(3, 6) + x.count(6, 9) + x.count(9, 12) + x.count(12, 13), 0);
            Check.due("read", x.read(0), -1);
        }
        Check.book(x, "kind k;");
        Check.due("sentence", Check.sentence(x, "-"), 1);
        Check.due("count: the word is gone", x.count(0, 1), 0);
    }
}
