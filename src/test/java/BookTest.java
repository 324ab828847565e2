/** Promises 4, 5, 7, 8, 9: book, fault, word, tighter, under. */
public final class BookTest {
    private static final String R = "rank r; ";

    public static void main(String[] args) {
        tokens();
        lines();
        limits();
        words();
        leaning();
        steps();
        latest();
        wordFace();
        tighterFace();
        underFace();
        Check.finish("BookTest");
    }

    private static void fine(String text, int words) {
        Check.fine(text, words);
    }

    private static void faulty(String marked, int fault) {
        Check.faulty(marked, fault);
    }

    private static void tokens() {
        fine("", 0);
        fine(" \n ", 0);
        fine("rank\na2345678\n;", 0);
        fine("rank abcdefgh; rank ijklmnop; rank qrstuvwx; rank yz; rank z0123456; rank z789;", 0);
        faulty("rank ^a23456789;", 1);
        faulty("rank ^A;", 1);
        faulty("rank a^A;", 1);
        faulty("rank ^1a;", 1);
        faulty("rank ^1;", 2);
        faulty("rank ^1A;", 2);
        faulty("rank ^1234567890;", 1);
        faulty("rank ^123456789;", 2);
        faulty("rank a^\t;", 1);
        faulty("rank a^\r;", 1);
        faulty("rank a^\u00ff;", 1);
        faulty("rank a^\0;", 1);
        faulty("rank a^.", 1);
        faulty("^.", 1);
        faulty("^(", 1);
        faulty("rank a ^!", 1);
        faulty("^rankk a;", 2);
        faulty("rank ^rank;", 2);
        for (String word : new String[] {"rank", "tighter", "kind", "under", "word", "left", "right"}) {
            faulty("rank ^" + word + ";", 2);
            faulty("kind ^" + word + ";", 2);
            fine("rank " + word + "s;", 0);
        }
        faulty(R + "word r: ^_k;", 1);
        faulty(R + "word r: ^_1;", 1);
        fine(R + "word r:_\"a\"_;", 1);
        fine(R + "word r:_\"a\"_ all\"b\";", 1);
        faulty(R + "word r: _^_;", 2);
        faulty(R + "word r: ^\"\";", 1);
        faulty(R + "word r: ^\"123\";", 1);
        faulty(R + "word r: ^\"12345678\";", 1);
        fine(R + "word r: \"1234567a\";", 1);
        fine(R + "word r: \"!~'#$%&*\";", 1);
        faulty(R + "word r: ^\"123456789\";", 1);
        faulty(R + "word r: ^\"abcdefghi\";", 1);
        fine(R + "word r: \"abcdefgh\";", 1);
        faulty(R + "word r: ^\"a b\";", 1);
        faulty(R + "word r: ^\"a(\";", 1);
        faulty(R + "word r: ^\"a)\";", 1);
        faulty(R + "word r: ^\"a\u007f\";", 1);
        faulty(R + "word r: ^\"a", 1);
        faulty(R + "word r: ^\"", 1);
        faulty(R + "word r: \"a\"^\";", 1);
        faulty(R + "word r: \"a\" = ^1b;", 1);
        faulty(R + "word r: \"a\" = ^1234567890;", 1);
        fine(R + "word r: \"a\" = 123456789;", 1);
        fine(R + "word r: \"a\" = 000000000;", 1);
        fine(R + "word r: \"a\" = 1 2+3-4*5/6%7<;", 1);
    }

    private static void lines() {
        fine("rank all; kind rk; rank rk; word rk: \"a\";", 1);
        faulty("^a", 2);
        faulty("^;", 2);
        faulty("rank a;^;", 2);
        faulty("rank^", 2);
        faulty("rank  ^", 2);
        faulty("rank a^", 2);
        faulty("rank a ^b;", 2);
        faulty("rank a; rank ^a", 3);
        faulty("rank a; tighter ^b", 3);
        faulty("rank a; tighter a ^b;", 3);
        faulty("rank a; rank b; tighter a b ^b;", 2);
        faulty("kind a; tighter ^a a;", 3);
        faulty("rank a; tighter a ^;", 2);
        faulty("rank a; tighter ^5;", 2);
        faulty("rank a; tighter a ^a", 4);
        faulty("rank a; rank b; tighter a b; tighter b ^a;", 4);
        faulty("rank a; rank b; rank c; tighter a b; tighter b c; tighter c ^a;", 4);
        faulty("rank a; rank b; rank c; rank d; tighter c d; tighter a b; tighter b c; tighter d ^a;", 4);
        fine("rank a; rank b; tighter a b; tighter a b;", 0);
        fine("rank a; rank b; rank c; tighter a b; tighter b c; tighter a c;", 0);
        faulty("kind ^all;", 3);
        faulty("kind a; kind ^a under b;", 3);
        faulty("kind a under ^a;", 3);
        faulty("kind a under ^b; kind b;", 3);
        faulty("rank r; kind a under ^r;", 3);
        faulty("kind a under ^;", 2);
        faulty("kind a ^all;", 2);
        faulty("kind a under all ^all;", 2);
        fine("kind a under all; kind b under a; kind c under b;", 0);
        faulty("word ^a: \"a\";", 3);
        faulty("kind a; word ^a: \"a\";", 3);
        faulty(R + "word^", 2);
        faulty(R + "word ^: \"a\";", 2);
        faulty(R + "word ^left r: \"a\";", 2);
        faulty(R + "word r left ^right: \"a\";", 2);
        faulty(R + "word r ^k: \"a\";", 3);
        faulty(R + "word r ^r: \"a\";", 3);
        faulty(R + "word r all ^all: \"a\";", 2);
        faulty(R + "word r all ^left: \"a\" _;", 2);
        faulty(R + "word r ^\"a\";", 2);
        faulty(R + "word r left all ^\"a\";", 2);
        faulty(R + "word r: \"a\"^", 2);
        faulty(R + "word r: \"a\" ^all;", 2);
        faulty(R + "word r: \"a\" _ all ^all;", 2);
        faulty(R + "word r: \"a\" _ ^k;", 3);
        faulty(R + "word r: \"a\" _ ^left;", 2);
        faulty(R + "word r: \"a\" ^:;", 2);
        faulty(R + "word r: \"a\" ^5;", 2);
        faulty(R + "word r: \"a\" ^@1;", 2);
    }

    private static void limits() {
        fine(Check.many("rank #;", 12), 0);
        faulty(Check.many("rank #;", 12) + "^rank", 2);
        faulty(Check.many("rank #;", 12) + "^rank a;", 2);
        fine(Check.many("kind #x;", 10), 0);
        faulty(Check.many("kind #x;", 10) + "^kind ax;", 2);
        fine("rank r;" + Check.many("word r:\"x\";", 30), 30);
        faulty("rank r;" + Check.many("word r:\"x\";", 30) + "^word 5", 2);
        faulty("rank r;" + Check.many("word r:\"x\";", 30) + "^words", 2);
        fine(R + "word r: \"a\" _ \"a\" _ \"a\" _ \"a\" _;", 1);
        fine(R + "word r: _ \"a\" _ \"a\" _ \"a\" _ \"a\";", 1);
        faulty(R + "word r: _ \"a\" _ \"a\" _ \"a\" _ \"a\" ^\"a\";", 2);
        faulty(R + "word r: _ \"a\" _ \"a\" _ \"a\" _ \"a\" ^_;", 2);
        faulty(R + "word r: _ \"a\" _ \"a\" _ \"a\" _ \"a\" ^\"\";", 1);
        faulty(R + "word r: _ \"a\" _ \"a\" _ \"a\" _ \"a\" ^_1;", 1);
        faulty(R + "word r: _ \"a\" _ \"a\" _ \"a\" _ \"a\" ^a;", 2);
        fine(R + "word r: \"a\" \"a\" \"a\" \"a\" \"a\" \"a\" \"a\" \"a\";", 1);
        faulty(R + "word r: \"a\" \"a\" \"a\" \"a\" \"a\" \"a\" \"a\" \"a\" ^\"a\";", 2);
        faulty(R + "word r: _ \"a\" _ \"a\" _ \"a\" _ \"a\" ^_ all;", 2);
        faulty(R + "word r: \"a\" _ \"a\" _ \"a\" _ \"a\" _ ^_;", 2);
        faulty(R + "word r: _ \"a\" _ \"a\" _ \"a\" _ ^_;", 2);
    }

    private static void words() {
        fine(R + "word r: \"a\";", 1);
        faulty(R + "word r: ^;", 2);
        faulty(R + "word r: ^= 1;", 2);
        faulty(R + "word r: _ ^;", 2);
        faulty(R + "word r: _ ^= @1;", 2);
        faulty(R + "word r: _ all ^;", 2);
        faulty(R + "word r: _ ^_ \"a\";", 2);
        faulty(R + "word r: \"a\" _ all ^_ all;", 2);
        faulty(R + "word r: _ \"a\" _ \"a\" _ \"a\" ^\"a b\" _;", 1);
    }

    private static void leaning() {
        fine(R + "word r left: _ \"a\";", 1);
        fine(R + "word r left: \"a\" _;", 1);
        fine(R + "word r right: _ \"a\";", 1);
        fine(R + "word r right: \"a\" _;", 1);
        faulty(R + "word r left ^: \"a\";", 2);
        faulty(R + "word r right ^: \"a\" _ \"b\";", 2);
        faulty(R + "word r right all ^: \"a\" _ \"b\" = @2;", 2);
        faulty(R + "word r left ^: \"a\" = ;", 2);
        faulty(R + "word r left ^: \"a\" ; .", 2);
        faulty(R + "word r left ^: ;", 2);
        faulty(R + "word r left ^: = 1;", 2);
        faulty(R + "word r left: _ ^;", 2);
        faulty(R + "word r left: \"a\" ^.", 1);
        faulty(R + "word r left: \"a\" ^a", 2);
        faulty(R + "word r left: \"a\"^", 2);
        faulty(R + "word r left: \"a\" _ ^k \"a\";", 3);
        faulty(R + "word r left: \"a\" _ ^_ \"a\";", 2);
        faulty(R + "word r left: \"a\" \"a\" \"a\" \"a\" \"a\" \"a\" \"a\" \"a\" ^\"a\" = 1;", 2);
    }

    private static void steps() {
        String a = R + "word r: _ \"a\" _ = ";
        faulty(a + "^;", 5);
        faulty(a + "^", 2);
        faulty(a + "@1 @2 ^;", 5);
        faulty(a + "^+;", 5);
        faulty(a + "@1 ^+;", 5);
        faulty(a + "@1 @2 + ^-;", 5);
        faulty(a + "^@0;", 5);
        faulty(a + "^@3;", 5);
        faulty(a + "^@ 9;", 5);
        faulty(a + "@ ^10;", 2);
        faulty(a + "@ ^01;", 2);
        faulty(a + "@ ^1a;", 1);
        faulty(a + "@ ^;", 2);
        faulty(a + "@ ^@1;", 2);
        faulty(a + "@^", 2);
        faulty(a + "@1 ^a;", 2);
        faulty(a + "@1 ^\"a\";", 2);
        faulty(a + "@1 ^_;", 2);
        faulty(a + "@1 ^= 1;", 2);
        faulty(a + "@1 ^.;", 1);
        faulty(a + "@1^", 2);
        fine(a + "@2;", 1);
        fine(a + "@\n1 @ 2 <;", 1);
        fine(R + "word r: \"b\" _ \"a\" _ \"a\" _ \"a\" _ = @4 @3 @2 @1 + - *;", 1);
        fine(a + Check.repeat("1 ", 15) + Check.repeat("+", 14) + ";", 1);
        faulty(a + Check.repeat("1 ", 16) + "^2;", 5);
        faulty(a + Check.repeat("1 ", 16) + "^@1;", 5);
        faulty(a + Check.repeat("1 ", 16) + "^@9;", 5);
        faulty(a + Check.repeat("1 ", 16) + "@^a;", 2);
        faulty(a + Check.repeat("1 ", 16) + Check.repeat("+", 14) + "^;", 5);
        faulty(a + Check.repeat("1 ", 16) + Check.repeat("+", 14) + "^+;", 2);
        faulty(a + Check.repeat("1 ", 16) + Check.repeat("+", 14) + "^@.;", 2);
        faulty(a + Check.repeat("1 ", 16) + Check.repeat("+", 14) + "^.;", 1);
        faulty(a + Check.repeat("1 ", 16) + Check.repeat("+", 14) + "^a", 2);
        // thirty steps leave an even number on the pile: one less is the most that can be right
        fine(a + "1 " + Check.repeat("1 +", 14) + ";", 1);
        faulty(a + "1 " + Check.repeat("1 +", 14) + "1 ^1;", 2);
        faulty(a + "1 " + Check.repeat("1 +", 14) + "1 ^;", 5);
    }

    private static void latest() {
        MixfixBench x = new MixfixBench();
        String good = "rank lo; rank hi; tighter hi lo; kind k; word lo: \"a\"; word hi: \"b\" _;";
        Check.due("book", Check.book(x, good), 2);
        Check.due("bind", x.bind(0, 7), true);
        Check.due("sentence", Check.sentence(x, "b a"), 2);
        Check.due("count: b takes no a, but one without ends", x.count(0, 2), 1);
        Check.due("read", x.read(0), 2);
        Check.due("work", x.work(), 2);
        Check.due("worked(1)", x.worked(1), 0);
        Check.due("book", Check.book(x, "rank lo; rank hi; kind k; kind l; word lo left: \"a\";"), -1);
        Check.due("fault(0)", x.fault(0), 2);
        Check.due("fault(1)", x.fault(1), 46);
        Check.due("about(0): the book stays", x.about(0), 2);
        Check.due("about(1)", x.about(1), 2);
        Check.due("about(2)", x.about(2), 2);
        Check.due("about(3): the sentence stays", x.about(3), 2);
        Check.due("about(4): the reading stays", x.about(4), 2);
        Check.due("worked(1): the work stays", x.worked(1), 0);
        Check.due("tighter", x.tighter(1, 0), 1);
        Check.due("word", x.word(1, 4), 1);
        Check.due("count", x.count(1, 2), 1);
        Check.due("sentence", Check.sentence(x, "a"), 1);
        Check.due("fault(0) stays", x.fault(0), 2);
        Check.due("read", x.read(0), 1);
        Check.due("work: the value stays", x.work(), 0);
        Check.due("worked(0)", x.worked(0), 7);
        Check.due("book", Check.book(x, good), 2);
        Check.due("fault(0)", x.fault(0), 0);
        Check.due("fault(1)", x.fault(1), -1);
        Check.due("about(3)", x.about(3), 0);
        Check.due("about(4)", x.about(4), 0);
        Check.due("worked(0)", x.worked(0), 0);
        Check.due("worked(1)", x.worked(1), -1);
        Check.due("work", x.work(), -1);
        Check.due("count", x.count(0, 1), 0);
        Check.due("sentence", Check.sentence(x, "a"), 1);
        Check.due("read", x.read(0), 1);
        Check.due("work: no word has a value", x.work(), 2);
        Check.due("book: empty", x.book(), 0);
        Check.due("about(0)", x.about(0), 0);
        Check.due("about(1)", x.about(1), 1);
        Check.due("about(2)", x.about(2), 0);
    }

    private static void wordFace() {
        MixfixBench x = new MixfixBench();
        Check.due("book", Check.book(x, "rank a; rank b; kind k; kind l;"
            + "word b l: \"x\"; word a left: _ \"+\" _ k = @1 @2 +; word b right k: _ l \"-\" = 1;"
            + "word a right: \"-\" _; word b: \"if\" _ \"then\" _ \"else\" _ \"x\" \"y\" = 1 2 3 4 + + +;"), 5);
        int[][] want = {{1, 0, 2, 1, 0, 0, -1}, {0, 1, 0, 3, 2, 3, 3}, {1, 2, 1, 2, 1, 1, 1},
            {0, 2, 0, 2, 1, 2, -1}, {1, 0, 0, 8, 3, 0, 7}};
        for (int w = 0; w < want.length; w++) {
            for (int what = 0; what < 7; what++) {
                Check.due("word(" + w + ", " + what + ")", x.word(w, what), want[w][what]);
            }
            Check.due("word(" + w + ", 7)", x.word(w, 7), -1);
            Check.due("word(" + w + ", -1)", x.word(w, -1), -1);
        }
        Check.due("word(5, 0)", x.word(5, 0), -1);
        Check.due("word(-1, 0)", x.word(-1, 0), -1);
        Check.due("word(2147483647, 0)", x.word(Integer.MAX_VALUE, 0), -1);
        Check.due("word(-2147483648, 0)", x.word(Integer.MIN_VALUE, 0), -1);
    }

    private static void tighterFace() {
        MixfixBench x = new MixfixBench();
        // a is tighter than b, b than c, told the later one first; d is tighter than a; e stands alone
        Check.book(x, "rank a; rank b; rank c; rank d; rank e; tighter b c; tighter d a; tighter a b;");
        String[] want = {"01100", "00100", "00000", "11100", "00000"};
        for (int a = 0; a < 5; a++) {
            for (int b = 0; b < 5; b++) {
                Check.due("tighter(" + a + ", " + b + ")", x.tighter(a, b), want[a].charAt(b) - '0');
            }
        }
        Check.due("tighter(5, 0)", x.tighter(5, 0), -1);
        Check.due("tighter(0, 5)", x.tighter(0, 5), -1);
        Check.due("tighter(-1, 0)", x.tighter(-1, 0), -1);
        Check.due("tighter(0, -1)", x.tighter(0, -1), -1);
        Check.due("tighter(0, 32)", x.tighter(0, 32), -1);
        Check.book(x, Check.many("rank #;", 12) + "tighter a l;");
        Check.due("tighter(0, 11)", x.tighter(0, 11), 1);
        Check.due("tighter(0, 1): nothing stays of the old book", x.tighter(0, 1), 0);
        Check.due("tighter(11, 0)", x.tighter(11, 0), 0);
    }

    private static void underFace() {
        MixfixBench x = new MixfixBench();
        Check.book(x, "kind a; kind b under a; kind c under b; kind d; kind e under all; kind f under a;");
        String[] want = {"1000000", "1100000", "1110000", "1111000", "1000100", "1000010", "1100001"};
        for (int a = 0; a < 7; a++) {
            for (int b = 0; b < 7; b++) {
                Check.due("under(" + a + ", " + b + ")", x.under(a, b), want[a].charAt(b) - '0');
            }
        }
        Check.due("under(7, 0)", x.under(7, 0), -1);
        Check.due("under(0, 7)", x.under(0, 7), -1);
        Check.due("under(-1, 0)", x.under(-1, 0), -1);
        Check.due("under(0, -1)", x.under(0, -1), -1);
        Check.book(x, Check.many("kind #x;", 10));
        Check.due("about(1)", x.about(1), 11);
        Check.due("under(10, 0)", x.under(10, 0), 1);
        Check.due("under(2, 1)", x.under(2, 1), 0);
        Check.due("under(11, 0)", x.under(11, 0), -1);
    }
}
