/** The boundary cases of promises 7, 8, 9 and 18, sentence by sentence. */
public final class FaceBoundsTest {
    private static final int[] FAR = {-1, -32, -100, 32, 33, 64, 100, 256, Integer.MAX_VALUE, Integer.MIN_VALUE};

    public static void main(String[] args) {
        wordNone();
        wordRank();
        wordLean();
        wordKind();
        wordSizes();
        wordEnds();
        wordSteps();
        tighterNone();
        tighterRanks();
        underNone();
        underKinds();
        sureOfLittle();
        sureParts();
        sureEnds();
        sureAlone();
        sureFirstPair();
        Check.finish("FaceBoundsTest");
    }

    private static MixfixBench book(String text) {
        return Check.bench(text, "");
    }

    /** "NONE if there is none such": no such word, no such what. */
    private static void wordNone() {
        MixfixBench x = new MixfixBench();
        for (int what = -1; what < 8; what++) {
            Check.due("word(0, " + what + ") of the empty book", x.word(0, what), -1);
            Check.due("word(-1, " + what + ") of the empty book", x.word(-1, what), -1);
        }
        for (int words : new int[] {1, 2, 30}) {
            x = book("rank r;" + Check.repeat("word r:\"a\";", words));
            for (int what = 0; what < 6; what++) {
                Check.due("the last word", x.word(words - 1, what), what == 3 ? 1 : 0);
                Check.due("word behind the last", x.word(words, what), -1);
                Check.due("word ahead of the first", x.word(-1, what), -1);
            }
            for (int far : FAR) {
                Check.due("word(" + far + ", 3)", x.word(far, 3), -1);
                Check.due("word(0, " + far + ")", x.word(0, far), -1);
            }
            Check.due("word(0, 7)", x.word(0, 7), -1);
        }
    }

    /** "ranks, words from 0 on": the first and the last. */
    private static void wordRank() {
        MixfixBench x = book(Check.many("rank #;", 12) + "word l: \"a\"; word a: \"a\"; word f: \"a\";");
        Check.due("word(0, 0)", x.word(0, 0), 11);
        Check.due("word(1, 0)", x.word(1, 0), 0);
        Check.due("word(2, 0)", x.word(2, 0), 5);
    }

    /** "0, 1 left, 2 right". */
    private static void wordLean() {
        MixfixBench x = book("rank r; word r: _ \"a\" _; word r left: _ \"a\" _; word r right: _ \"a\" _;"
            + "word r left: \"a\" _; word r right: _ \"a\"; word r: \"a\";");
        int[] want = {0, 1, 2, 1, 2, 0};
        for (int w = 0; w < want.length; w++) {
            Check.due("word(" + w + ", 1)", x.word(w, 1), want[w]);
        }
    }

    /** "kinds from 1 on"; "the other one its KIND (without: all)". */
    private static void wordKind() {
        MixfixBench x = book("rank r;" + Check.many("kind #;", 10)
            + "word r a: \"a\"; word r j: \"a\"; word r: \"a\"; word r all: \"a\"; word r left e: \"a\" _ b;");
        int[] want = {1, 10, 0, 0, 5};
        for (int w = 0; w < want.length; w++) {
            Check.due("word(" + w + ", 2)", x.word(w, 2), want[w]);
        }
    }

    private static void wordSizes() {
        MixfixBench x = book("rank r; word r: \"a\"; word r: \"a\" _; word r: \"a\"\"a\"\"a\"\"a\"\"a\"\"a\"\"a\"\"a\";"
            + "word r: _\"a\"_\"a\"_\"a\"_\"a\"; word r: \"a\"_\"a\"_\"a\"_\"a\"_;");
        int[][] want = {{1, 0}, {2, 1}, {8, 0}, {8, 4}, {8, 4}};
        for (int w = 0; w < want.length; w++) {
            Check.due("word(" + w + ", 3)", x.word(w, 3), want[w][0]);
            Check.due("word(" + w + ", 4)", x.word(w, 4), want[w][1]);
        }
    }

    /** "1 if it has a first END, and 2 if a last one". */
    private static void wordEnds() {
        MixfixBench x = book("rank r; word r: \"a\"; word r: _ \"a\"; word r: \"a\" _; word r: _ \"a\" _;"
            + "word r: \"a\" _ \"a\"; word r: _\"a\"_\"a\"_\"a\"_\"a\"; word r: \"a\"_\"a\"_\"a\"_\"a\"_;");
        int[] want = {0, 1, 2, 3, 0, 1, 2};
        for (int w = 0; w < want.length; w++) {
            Check.due("word(" + w + ", 5)", x.word(w, 5), want[w]);
        }
    }

    /** "steps (NONE without =)". */
    private static void wordSteps() {
        MixfixBench x = book("rank r; word r: \"a\"; word r: \"a\" = 0; word r: \"a\" = 1 2 +; word r: \"a\" _ = @ 1;"
            + "word r: \"a\" = 1" + Check.repeat(" 1 +", 14) + "; word r: \"a\" _;");
        int[] want = {-1, 1, 3, 1, 29, -1};
        for (int w = 0; w < want.length; w++) {
            Check.due("word(" + w + ", 6)", x.word(w, 6), want[w]);
        }
        x.bind(0, 3);
        Check.due("word(0, 6): a value is no step", x.word(0, 6), -1);
    }

    /** "NONE if one is none." */
    private static void tighterNone() {
        MixfixBench x = new MixfixBench();
        Check.due("tighter(0, 0) of the empty book", x.tighter(0, 0), -1);
        for (int ranks : new int[] {1, 2, 12}) {
            x = book(Check.many("rank #;", ranks));
            Check.due("the last rank", x.tighter(ranks - 1, ranks - 1), 0);
            Check.due("a behind the last", x.tighter(ranks, 0), -1);
            Check.due("b behind the last", x.tighter(0, ranks), -1);
            Check.due("both behind the last", x.tighter(ranks, ranks), -1);
            for (int far : FAR) {
                Check.due("tighter(" + far + ", 0)", x.tighter(far, 0), -1);
                Check.due("tighter(0, " + far + ")", x.tighter(0, far), -1);
                Check.due("tighter(" + far + ", " + far + ")", x.tighter(far, far), -1);
            }
        }
    }

    /** "a is TIGHTER than b; so is, than c, what is so than b that is so than c", over twelve ranks. */
    private static void tighterRanks() {
        String ranks = Check.many("rank #;", 12);
        StringBuilder down = new StringBuilder();
        StringBuilder up = new StringBuilder();
        for (char rank = 'a'; rank < 'l'; rank++) {
            String line = "tighter " + rank + " " + (char) (rank + 1) + ";";
            down.append(line);
            up.insert(0, line);
        }
        for (StringBuilder lines : new StringBuilder[] {down, up}) {
            MixfixBench x = book(ranks + lines);
            for (int pair = 0; pair < 144; pair++) {
                int a = pair / 12;
                int b = pair % 12;
                Check.due("tighter(" + a + ", " + b + ")", x.tighter(a, b), a < b ? 1 : 0);
            }
        }
        // two that are tighter than one are not so than each other; nor is what is looser
        MixfixBench x = book("rank a; rank b; rank c; rank d; tighter a c; tighter b c; tighter a d;");
        int[][] want = {{0, 0, 1, 1}, {0, 0, 1, 0}, {0, 0, 0, 0}, {0, 0, 0, 0}};
        for (int pair = 0; pair < 16; pair++) {
            Check.due("tighter of pair " + pair, x.tighter(pair / 4, pair % 4), want[pair / 4][pair % 4]);
        }
    }

    /** "NONE if one is none." */
    private static void underNone() {
        MixfixBench x = new MixfixBench();
        Check.due("under(0, 0) of the empty book", x.under(0, 0), 1);
        for (int kinds : new int[] {0, 1, 2, 10}) {
            x = book(Check.many("kind #;", kinds));
            Check.due("the last kind", x.under(kinds, kinds), 1);
            Check.due("a behind the last", x.under(kinds + 1, 0), -1);
            Check.due("b behind the last", x.under(0, kinds + 1), -1);
            Check.due("both behind the last", x.under(kinds + 1, kinds + 1), -1);
            for (int far : FAR) {
                Check.due("under(" + far + ", 0)", x.under(far, 0), -1);
                Check.due("under(0, " + far + ")", x.under(0, far), -1);
                Check.due("under(" + far + ", " + far + ")", x.under(far, far), -1);
            }
        }
    }

    /** "1 if KIND a is b, or under it", "at any depth; all are under all". */
    private static void underKinds() {
        StringBuilder chain = new StringBuilder("kind a;");
        for (char kind = 'b'; kind <= 'j'; kind++) {
            chain.append("kind " + kind + " under " + (char) (kind - 1) + ";");
        }
        MixfixBench deep = book(chain.toString());
        MixfixBench flat = book(Check.many("kind #;", 10));
        MixfixBench told = book(Check.many("kind # under all;", 10));
        for (int pair = 0; pair < 121; pair++) {
            int a = pair / 11;
            int b = pair % 11;
            Check.due("under(" + a + ", " + b + ") in a chain", deep.under(a, b), a >= b ? 1 : 0);
            Check.due("under(" + a + ", " + b + ") side by side", flat.under(a, b), a == b || b == 0 ? 1 : 0);
            Check.due("under(" + a + ", " + b + ") under all", told.under(a, b), a == b || b == 0 ? 1 : 0);
        }
    }

    private static void dueSure(String words, int want) {
        Check.due("sure() of " + words, book("rank r; rank s; rank t; tighter s r; " + words).sure(), want);
    }

    /** "NONE if the BOOK is SURE": the empty one, ranks alone, one word. */
    private static void sureOfLittle() {
        Check.due("sure() of a new object", new MixfixBench().sure(), -1);
        dueSure("", -1);
        dueSure("word r: \"a\";", -1);
        dueSure("word r: \"a\" _;", -1);
        dueSure("word r: _ \"a\";", -1);
        dueSure("word r left: _ \"a\" _;", -1);
    }

    /** "a PART that both have (a and b the same: a PART that it has twice)". */
    private static void sureParts() {
        dueSure("word r: \"a\"\"b\"\"c\"\"d\"\"e\"\"f\"\"g\"\"h\";", -1);
        dueSure("word r: \"a\"\"b\"\"c\"\"d\"\"e\"\"f\"\"g\"\"a\";", 0);
        dueSure("word r: \"a\"\"b\"\"c\"\"d\"\"e\"\"f\"\"g\"\"g\";", 0);
        dueSure("word r: \"a\"\"a\"\"c\"\"d\"\"e\"\"f\"\"g\"\"h\";", 0);
        dueSure("word r: \"a\"\"b\"\"c\"\"d\"\"e\"\"f\"\"g\"\"h\"; word s: \"i\"\"h\";", 1);
        dueSure("word r: \"h\"\"g\"; word s: \"a\"\"b\"\"c\"\"d\"\"e\"\"f\"\"i\"\"h\";", 1);
        dueSure("word r: \"h\"\"g\"; word s: \"a\"\"b\"\"c\"\"d\"\"e\"\"f\"\"i\"\"j\";", -1);
        // two holes are no part, and parts are the same by all of their bytes
        dueSure("word r: \"a\" _ \"b\" _ \"c\"; word s: \"d\" _ \"e\" _ \"f\";", -1);
        dueSure("word r: \"abcdefgh\" \"abcdefgi\"; word s: \"bbcdefgh\" \"abcdefg\" \"h\";", -1);
        dueSure("word r: \"abcdefgh\"; word s: \"abcdefgh\";", 1);
    }

    /** "two different ones with ENDS, of which no RANK is TIGHTER than the other's, unless ..". */
    private static void sureEnds() {
        String[] shapes = {"\"#\"", "\"#\" _ \"#1\"", "_ \"#\"", "\"#\" _"};
        String[] leans = {"", " left", " right"};
        for (int one = 0; one < 12; one++) {
            for (int other = 0; other < 12; other++) {
                if ((one / 3 >= 2 || one % 3 == 0) && (other / 3 >= 2 || other % 3 == 0)) {
                    boolean ends = one / 3 >= 2 && other / 3 >= 2;
                    boolean alike = one % 3 == other % 3 && one % 3 != 0;
                    String a = leans[one % 3] + ": " + shapes[one / 3].replace('#', 'a') + ";";
                    String b = leans[other % 3] + ": " + shapes[other / 3].replace('#', 'b') + ";";
                    dueSure("word r" + a + " word r" + b, ends && !alike ? 1 : -1);
                    dueSure("word r" + a + " word t" + b, ends ? 1 : -1);
                    dueSure("word r" + a + " word s" + b, -1);
                    dueSure("word s" + a + " word r" + b, -1);
                }
            }
        }
    }

    /** "one with both ENDS that does not lean". */
    private static void sureAlone() {
        dueSure("word r: _ \"a\" _;", 0);
        dueSure("word r left: _ \"a\" _;", -1);
        dueSure("word r right: _ \"a\" _;", -1);
        dueSure("word r: _ \"a\" _ \"b\" _;", 0);
        dueSure("word r: _ \"a\" _ \"b\";", -1);
        dueSure("word r: \"a\" _ \"b\" _;", -1);
        dueSure("word r left: _ \"a\" _; word s: _ \"b\" _;", 101);
    }

    /** "the first pair (by a, then b) of WORDs a, b (a at most b) .. : 100 * a + b". */
    private static void sureFirstPair() {
        dueSure("word r: \"a\"; word r: \"b\"; word r: \"b\"; word r: \"a\";", 3);
        dueSure("word r: \"a\"; word r: \"b\"; word r: \"c\"\"c\"; word r: \"b\";", 103);
        dueSure("word r: \"a\"; word r: \"b\"\"b\"; word r: \"b\";", 101);
        StringBuilder words = new StringBuilder();
        for (int w = 0; w < 28; w++) {
            words.append("word r:\"").append((char) ('A' + w)).append("\";");
        }
        dueSure(words + "word r:\"y\";word r:\"z\";", -1);
        dueSure(words + "word r:\"y\";word r:\"y\";", 2829);
        dueSure(words + "word r:\"y\";word r:\"z\"\"z\";", 2929);
        dueSure(words + "word r:\"y\"\"y\";word r:\"z\"\"z\";", 2828);
        dueSure(words + "word r:\"y\"\"y\";word r:\"A\";", 29);
        dueSure(words + "word r:_\"y\"_;word r:_\"z\"_;", 2828);
    }
}
