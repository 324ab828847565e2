/** Promises 11 to 14: count, quarrel, read, node. */
public final class ReadingTest {
    public static void main(String[] args) {
        ends();
        leans();
        kinds();
        brackets();
        order();
        orderOfHoles();
        manyReadings();
        quarrel();
        read();
        nodes();
        deepest();
        Check.finish("ReadingTest");
    }

    private static void dueCount(String book, String sentence, long want) {
        MixfixBench x = Check.bench(book, sentence);
        Check.due("count of " + sentence + " by " + book, x.count(0, x.about(3)), want);
    }

    private static void ends() {
        String ranks = "rank lo; rank hi; rank off; tighter hi lo; word lo: _ \"+\" _; ";
        dueCount(ranks, "1 + 2", 1);
        dueCount(ranks, "1 + 2 + 3", 0);
        dueCount(ranks, "( 1 + 2 ) + 3", 1);
        dueCount(ranks + "word hi: \"-\" _;", "1 + - 2", 1);
        dueCount(ranks + "word lo: \"-\" _;", "1 + - 2", 0);
        dueCount(ranks + "word off: \"-\" _;", "1 + - 2", 0);
        dueCount(ranks + "word lo: \"-\";", "1 + -", 1);
        dueCount(ranks + "word off: \"[\" _ \"]\";", "1 + [ 1 + 2 ]", 1);
        dueCount(ranks + "word off: \"[\" _ \"]\";", "[ [ 1 + 2 ] ] + 1", 1);
        // a rank told looser, a rank tighter by two steps
        dueCount("rank a; rank b; rank c; word c: _ \"+\" _; word a: \"-\" _; tighter b c; tighter a b;", "1 + - 2", 1);
        dueCount("rank a; rank b; rank c; word a: _ \"+\" _; word c: \"-\" _; tighter b c; tighter a b;", "1 + - 2", 0);
        // an inner hole takes what is looser
        dueCount("rank lo; rank hi; tighter hi lo; word lo: _ \"+\" _; word hi: \"if\" _ \"then\" _;", "if 1 + 2 then 3", 1);
        dueCount("rank lo; rank hi; tighter hi lo; word lo: _ \"+\" _; word hi: \"if\" _ \"then\" _;", "if 1 then 2 + 3", 1);
        dueCount("rank r; word r: \"a\" _;", "a", 0);
        dueCount("rank r; word r: _ \"a\";", "a", 0);
    }

    private static void leans() {
        String left = "rank r; rank s; word r left: _ \"+\" _; ";
        dueCount(left, "1 + 2 + 3", 1);
        MixfixBench x = Check.bench(left, "1 + 2 + 3");
        x.read(0);
        Check.due("left: the first hole has three tokens", x.node(1, 2), 3);
        String right = "rank r; rank s; word r right: _ \"+\" _; ";
        x = Check.bench(right, "1 + 2 + 3");
        Check.due("read", x.read(0), 5);
        Check.due("right: the first hole has one token", x.node(1, 2), 1);
        // the same rank is enough, whatever the inner word leans to
        dueCount(left + "word r: _ \"*\" _;", "1 * 2 + 3", 1);
        dueCount(left + "word r: _ \"*\" _;", "1 + 2 * 3", 0);
        dueCount(left + "word r right: _ \"*\" _;", "1 * 2 + 3", 2);
        dueCount(left + "word r right: _ \"*\" _;", "1 + 2 * 3", 0);
        dueCount(left + "word s: _ \"*\" _;", "1 * 2 + 3", 0);
        // a word may lean to a side where it has no end
        dueCount("rank r; word r left: \"-\" _;", "- - 1", 0);
        dueCount("rank r; word r right: \"-\" _;", "- - 1", 1);
        dueCount("rank r; word r left: _ \"-\";", "1 - -", 1);
        dueCount("rank r; word r right: _ \"-\";", "1 - -", 0);
        dueCount("rank r; word r left: _ \"if\" _ \"else\" _;", "1 if 2 if 3 else 4 else 5", 1);
    }

    private static void kinds() {
        String book = "rank r; kind num; kind small under num; kind bool; kind tiny under small; ";
        String words = "word r small: \"s\"; word r bool: \"b\"; word r tiny: \"t\"; word r: \"all\"; ";
        String[] tokens = {"1", "s", "b", "t", "all"};
        String[] holes = {"_", "_ all", "_ num", "_ small", "_ bool", "_ tiny"};
        String[] taken = {"11111", "11111", "11010", "01010", "00100", "00010"};
        for (int h = 0; h < holes.length; h++) {
            for (int t = 0; t < tokens.length; t++) {
                String text = book + words + "word r: \"is\" " + holes[h] + " \"!\"; word r: \"has\" " + holes[h] + ";";
                int want = taken[h].charAt(t) - '0';
                dueCount(text, "is " + tokens[t] + " !", want);
                dueCount(text, "has " + tokens[t], want);
                dueCount(text, "is ( ( " + tokens[t] + " ) ) !", want);
            }
        }
        dueCount("rank r; word r: \"is\" _;", "is 1", 1);
        dueCount("rank r; kind k; kind l; word r: \"is\" _ l;", "is 1", 0);
    }

    private static void brackets() {
        dueCount("", "1", 1);
        dueCount("", "( 1 )", 1);
        dueCount("", "((1))", 1);
        dueCount("", "( 1", 0);
        dueCount("", "1 )", 0);
        dueCount("", ") 1 (", 0);
        dueCount("", "()", 0);
        dueCount("", "( 1 ) )", 0);
        dueCount("", "1 1", 0);
        dueCount("", "a", 0);
        dueCount("rank r; word r left: _ \"+\" _;", "( 1 ) + ( 2 )", 1);
        dueCount("rank r; word r left: _ \"+\" _;", "( 1 + 2 ) + ( 3 + 4 )", 1);
        dueCount("rank r; word r: \"a\"; word r: \"a\"; word r: _ \"+\" _;", "( a ) + ( ( a ) )", 4);
        dueCount("rank r; kind k; kind l; word r k: \"a\"; word r l: \"a\"; word r: _ k \"+\" _ l;", "( a ) + ( ( a ) )", 1);
        MixfixBench x = Check.bench("rank r; kind k; kind l; word r k: \"a\"; word r l: \"a\"; word r: _ l \"+\" _ k;",
            "((a)) + (a)");
        x.read(0);
        Check.dueWords("brackets keep the kind that the hole asks for", x, "2 -3 -3 1 -3 0");
    }

    private static void dueOrder(String book, String sentence, String... want) {
        for (int k = 0; k < want.length; k++) {
            MixfixBench x = Check.bench(book, sentence);
            Check.due("count of " + sentence, x.count(0, x.about(3)), want.length);
            Check.due("read(" + k + ") of " + sentence, x.read(k), want[k].split(" ").length);
            Check.dueWords("read(" + k + ") of " + sentence, x, want[k]);
            Check.due("read(" + want.length + ")", x.read(want.length), -1);
        }
    }

    private static void order() {
        dueOrder("rank r; word r: \"a\"; word r: \"b\"; word r: \"a\"; word r: \"a\";", "a", "0", "2", "3");
        dueOrder("rank r; word r: \"a\"; word r: \"a\";", "((a))", "-3 -3 0", "-3 -3 1");
        dueOrder("rank r; word r right: \"a\" _; word r right: \"a\" _;", "a a 1",
            "0 0 -2", "0 1 -2", "1 0 -2", "1 1 -2");
        // the first hole's reading weighs more than the second's
        dueOrder("rank r; word r: _ \"+\" _; word r: \"a\"; word r: \"a\";", "a + a",
            "0 1 1", "0 1 2", "0 2 1", "0 2 2");
        // a hole numbers just what it takes
        dueOrder("rank r; kind k; kind l; word r l: \"a\"; word r k: \"a\"; word r l: \"a\"; word r: \"b\" _ l;", "b a",
            "3 0", "3 2");
        dueOrder("rank r; rank s; tighter s r; word r: \"a\" _; word s: \"a\" _; word r: \"b\" _;", "b a 1", "2 1 -2");
    }

    private static void orderOfHoles() {
        // inside { } the two + are split in two ways: by where the first hole ends
        String book = "rank r; word r: \"{\" _ \"+\" _ \"}\"; word r: \"{\" _ \"}\";";
        dueOrder(book, "{ 1 + 2 }", "0 -2 -2");
        String loose = "rank a; rank b; tighter a b; word b: \"[\" _ \",\" _ \"]\"; word a left: _ \",\" _; word a: \"x\"; word a: \"x\";";
        MixfixBench x = Check.bench(loose, "[ 1 , 2 , x ]");
        Check.due("count", x.count(0, 7), 4);
        Check.due("read", x.read(0), 5);
        Check.dueWords("read(0)", x, "0 -2 1 -2 2");
        Check.due("read", x.read(1), 5);
        Check.dueWords("read(1)", x, "0 -2 1 -2 3");
        Check.due("read", x.read(2), 5);
        Check.dueWords("read(2)", x, "0 1 -2 -2 2");
        Check.due("node(1, 2)", x.node(1, 2), 3);
        Check.due("read", x.read(3), 5);
        Check.dueWords("read(3)", x, "0 1 -2 -2 3");
        // the ends of all holes weigh more than the readings of the first one
        String two = "rank a; rank b; tighter a b; word b: \"[\" _ \";\" _ \",\" _ \"]\"; word a left: _ \",\" _; word a: \"x\"; word a: \"x\";";
        x = Check.bench(two, "[ x ; 1 , 2 , 3 ]");
        Check.due("count", x.count(0, 9), 4);
        String[] want = {"0 2 -2 1 -2 -2", "0 3 -2 1 -2 -2", "0 2 1 -2 -2 -2", "0 3 1 -2 -2 -2"};
        for (int k = 0; k < 4; k++) {
            Check.due("read(" + k + ")", x.read(k), 6);
            Check.dueWords("read(" + k + ")", x, want[k]);
        }
    }

    /** So many words that all are an "a" before a hole. */
    private static String prefixes(int words) {
        return "rank r;" + Check.repeat("word r right:\"a\"_;", words);
    }

    private static void manyReadings() {
        MixfixBench x = Check.bench(prefixes(8), Check.repeat("a ", 21) + "1");
        Check.due("8 to the 20th", x.count(1, 22), 1L << 60);
        Check.due("8 to the 21st", x.count(0, 22), -2);
        Check.due("read(-1)", x.read(-1), -1);
        Check.due("read(the greatest)", x.read(Long.MAX_VALUE), 22);
        Check.dueWords("read(the greatest)", x, Check.repeat("7 ", 21) + "-2");
        Check.due("read(0)", x.read(0), 22);
        Check.dueWords("read(0)", x, Check.repeat("0 ", 21) + "-2");
        Check.due("read(8 to the 20th)", x.read(1L << 60), 22);
        Check.dueWords("read(8 to the 20th)", x, "1 " + Check.repeat("0 ", 20) + "-2");
        Check.due("quarrel", x.quarrel(), 2002);
        x = Check.bench(prefixes(7), Check.repeat("a ", 22) + "1");
        Check.due("7 to the 22nd", x.count(0, 23), 3909821048582988049L);
        Check.due("read(7 to the 22nd)", x.read(3909821048582988049L), -1);
        Check.due("read(one less)", x.read(3909821048582988048L), 23);
        Check.dueWords("read(one less)", x, Check.repeat("6 ", 22) + "-2");
        products();
        nothingTimesMany();
        theGreatest();
    }

    /** Of kind x, n times "a" have 8 times as many readings as n - 1 times, and 7: 8 to the n less 1. */
    private static void theGreatest() {
        String book = "rank r; kind k; kind x; kind y;" + Check.repeat("word r right x:\"a\"_ x;", 8)
            + Check.repeat("word r right x:\"a\"_ y;", 7) + "word r right y:\"a\"_ y; word r y:\"z\"; word r:\"[\"_ x\"]\";";
        MixfixBench x = Check.bench(book, "[ " + Check.repeat("a ", 21) + "z ]");
        Check.due("count: of kind x and y", x.count(1, 23), -2);
        Check.due("count: the greatest long", x.count(0, 24), Long.MAX_VALUE);
        Check.due("quarrel", x.quarrel(), 2102);
        Check.due("read", x.read(Long.MAX_VALUE), -1);
        Check.due("read", x.read(Long.MAX_VALUE - 1), 23);
        Check.dueWords("the last one", x, "17 14 " + Check.repeat("15 ", 20) + "16");
        Check.due("read", x.read(Long.MAX_VALUE - 8), 23);
        Check.dueWords("seven before it", x, "17 7 14 " + Check.repeat("15 ", 19) + "16");
    }

    private static void products() {
        // 2 to the 31st times 2 to the 31st, then times 2
        String book = "rank r; rank s; tighter s r; word r: _ \"+\" _;"
            + Check.repeat("word s right:\"a\"_;", 8) + "word s: \"x\"; word s: \"x\";";
        MixfixBench x = Check.bench(book, Check.repeat("a ", 10) + "x + " + Check.repeat("a ", 10) + "x");
        Check.due("2 to the 62nd", x.count(0, 23), 1L << 62);
        Check.due("read", x.read((1L << 62) - 1), 23);
        Check.dueWords("the last one", x, "0 " + Check.repeat("8 ", 10) + "10 " + Check.repeat("8 ", 10) + "10");
        Check.due("read", x.read(1L << 62), -1);
        Check.due("read", x.read((1L << 31) + 2), 23);
        Check.dueWords("a middle one", x,
            "0 " + Check.repeat("1 ", 10) + "10 " + Check.repeat("1 ", 9) + "2 9");
        x = Check.bench(book, Check.repeat("a ", 11) + "x + " + Check.repeat("a ", 10) + "x");
        Check.due("2 to the 65th", x.count(0, 24), -2);
        Check.due("read", x.read(Long.MAX_VALUE), 24);
        Check.dueWords("2 to the 63rd less 1", x,
            "0 2 " + Check.repeat("8 ", 10) + "10 " + Check.repeat("8 ", 10) + "10");
        x = Check.bench(book, Check.repeat("a ", 5) + "x + " + Check.repeat("a ", 21) + "x");
        Check.due("the last hole has too many", x.count(0, 29), -2);
        Check.due("read", x.read(Long.MAX_VALUE), 29);
        Check.dueWords("2 to the 63rd less 1", x,
            "0 " + Check.repeat("1 ", 5) + "9 4 " + Check.repeat("8 ", 20) + "10");
        x = Check.bench(book, Check.repeat("a ", 21) + "x + " + Check.repeat("a ", 5) + "x");
        Check.due("the first hole has too many", x.count(0, 29), -2);
        Check.due("read", x.read(Long.MAX_VALUE), 29);
        // 63 binary digits: 16 of them are the last hole's, of the first one's 64 the first 17 are 0
        Check.dueWords("2 to the 63rd less 1", x,
            "0 " + Check.repeat("1 ", 5) + "2 " + Check.repeat("8 ", 15) + "10 " + Check.repeat("8 ", 5) + "10");
        sums();
    }

    private static void sums() {
        // 4 to the 31st = 2 to the 62nd, in two ways: one above the greatest long
        String book = "rank r; rank s; tighter s r;" + Check.repeat("word s right:\"a\"_;", 4)
            + "word s: \"x\"; word s: \"x\"; word s: \"x\"; word s: \"x\"; word r: \"[\" _ \"]\"; word r: \"[\" _ \"]\";";
        MixfixBench x = Check.bench(book, "[ " + Check.repeat("a ", 27) + "x ]");
        Check.due("2 to the 57th", x.count(0, 30), 1L << 57);
        String eight = "rank r; rank s; tighter s r;" + Check.repeat("word s right:\"a\"_;", 8)
            + "word s: \"x\"; word s: \"x\"; word s: \"x\"; word s: \"x\"; word r: \"[\" _ \"]\"; word r: \"[\" _ \"]\";";
        x = Check.bench(eight, "[ " + Check.repeat("a ", 20) + "x ]");
        Check.due("2 to the 62nd", x.count(1, 22), 1L << 62);
        Check.due("2 to the 63rd", x.count(0, 23), -2);
        Check.due("read", x.read((1L << 62) - 1), 22);
        Check.due("the first of the two", x.node(0, 0), 12);
        Check.due("read", x.read(1L << 62), 22);
        Check.due("the second of the two", x.node(0, 0), 13);
        Check.due("its hole", x.node(1, 0), 0);
        Check.due("in brackets, too", Check.sentence(x, "([ " + Check.repeat("a ", 20) + "x ])"), 25);
        Check.due("2 to the 63rd", x.count(0, 25), -2);
        Check.due("read", x.read(Long.MAX_VALUE), 23);
        Check.dueWords("2 to the 63rd less 1", x, "-3 13 " + Check.repeat("7 ", 20) + "11");
    }

    private static void nothingTimesMany() {
        String book = "rank r; rank s; tighter s r; kind num; kind no; word r: _ \"+\" _ no;"
            + Check.repeat("word s right:\"a\"_;", 30 - 1);
        MixfixBench x = Check.bench(book, Check.repeat("a ", 20) + "1 + 1");
        Check.due("too many of the first hole", x.count(0, 21), -2);
        Check.due("none of the second one", x.count(0, 23), 0);
        Check.due("read", x.read(0), -1);
    }

    private static void dueQuarrel(String book, String sentence, int want) {
        MixfixBench x = Check.bench(book, sentence);
        Check.due("quarrel of " + sentence + " by " + book, x.quarrel(), want);
    }

    private static void quarrel() {
        String book = "rank r; word r: _ \"+\" _; word r right: \"-\" _; word r: \"a\"; word r: \"a\"; word r right: \"-\" _;";
        dueQuarrel(book, "1 + 2", -1);
        dueQuarrel(book, "1 + a", 201);
        dueQuarrel(book, "a + a", 1);
        dueQuarrel(book, "- 1 - 1", 2);
        dueQuarrel(book, "1 + a + - 1", 201);
        dueQuarrel(book, "1 1 - 1", 202);
        dueQuarrel(book, Check.repeat("1 ", 29) + "a", 2901);
        dueQuarrel(book, "", -1);
        dueQuarrel(prefixes(30), "b " + Check.repeat("a ", 27) + "b 1", -1);
        String dangling = "rank r; word r right: \"if\" _ \"then\" _; word r right: \"if\" _ \"then\" _ \"else\" _;";
        MixfixBench x = Check.bench(dangling, "if 1 then if 2 then 3 else 4");
        Check.due("count", x.count(0, 9), 2);
        Check.due("quarrel", x.quarrel(), 9);
        Check.due("read", x.read(0), 6);
        Check.dueWords("read(0)", x, "0 -2 1 -2 -2 -2");
        Check.due("read", x.read(1), 6);
        Check.dueWords("read(1)", x, "1 -2 0 -2 -2 -2");
        Check.due("sentence", Check.sentence(x, "( if 1 then if 2 then 3 else 4 )"), 11);
        Check.due("quarrel", x.quarrel(), 109);
    }

    private static void read() {
        MixfixBench x = Check.bench("rank r; word r: \"a\"; word r: \"a\"; word r: \"b\" _;", "a");
        Check.due("count(0, 1)", x.count(0, 1), 2);
        Check.due("count(-1, 1)", x.count(-1, 1), 0);
        Check.due("count(0, 2)", x.count(0, 2), 0);
        Check.due("count(0, 0)", x.count(0, 0), 0);
        Check.due("count(1, 1)", x.count(1, 1), 0);
        Check.due("count(1, 0)", x.count(1, 0), 0);
        Check.due("count(extremes)", x.count(Integer.MIN_VALUE, Integer.MAX_VALUE), 0);
        Check.due("count(extremes)", x.count(Integer.MAX_VALUE, Integer.MIN_VALUE), 0);
        Check.due("read(2)", x.read(2), -1);
        Check.due("about(4)", x.about(4), 0);
        Check.due("read(1)", x.read(1), 1);
        Check.due("read(2)", x.read(2), -1);
        Check.due("node(0, 0): the reading stays", x.node(0, 0), 1);
        Check.due("read(-1)", x.read(-1), -1);
        Check.due("read(least)", x.read(Long.MIN_VALUE), -1);
        Check.due("read(4294967296)", x.read(1L << 32), -1);
        Check.due("node(0, 0): the reading stays", x.node(0, 0), 1);
        Check.due("read(0)", x.read(0), 1);
        Check.due("node(0, 0)", x.node(0, 0), 0);
        Check.due("sentence", Check.sentence(x, "b 1 b"), 3);
        Check.due("count(0, 2)", x.count(0, 2), 1);
        Check.due("read: the whole sentence has none", x.read(0), -1);
        Check.due("about(4)", x.about(4), 0);
    }

    private static void nodes() {
        MixfixBench x = Check.bench("rank r; word r: \"if\" _ \"then\" _ \"fi\"; word r left: _ \"+\" _; word r: \"x\";",
            "( if x + 1 then ( 2 ) fi )");
        Check.due("read", x.read(0), 7);
        int[][] want = {{-3, 0, 11, -1, -1}, {0, 1, 9, 0, 0}, {1, 2, 3, 1, 0}, {2, 2, 1, 2, 0}, {-2, 4, 1, 2, 1},
            {-3, 6, 3, 1, 1}, {-2, 7, 1, 5, 0}};
        Check.due("about(3)", x.about(3), 11);
        Check.due("about(4)", x.about(4), want.length);
        for (int n = 0; n < want.length; n++) {
            for (int what = 0; what < 5; what++) {
                Check.due("node(" + n + ", " + what + ")", x.node(n, what), want[n][what]);
            }
            Check.due("node(" + n + ", 5)", x.node(n, 5), -1);
            Check.due("node(" + n + ", -1)", x.node(n, -1), -1);
        }
        Check.due("node(7, 0)", x.node(7, 0), -1);
        Check.due("node(-1, 0)", x.node(-1, 0), -1);
        Check.due("node(2147483647, 0)", x.node(Integer.MAX_VALUE, 0), -1);
    }

    private static void deepest() {
        MixfixBench x = Check.bench("rank r; word r right: \"a\" _ = @1 1 +;", Check.repeat("a ", 29) + "1");
        Check.due("read", x.read(0), 30);
        Check.due("node(29, 3)", x.node(29, 3), 28);
        Check.due("work", x.work(), 0);
        Check.due("worked(0)", x.worked(0), 30);
        x = Check.bench("", Check.repeat("(", 14) + "1" + Check.repeat(")", 14));
        Check.due("count", x.count(0, 29), 1);
        Check.due("read", x.read(0), 15);
        Check.due("work", x.work(), 0);
        Check.due("worked(0)", x.worked(0), 1);
        // four holes in each of thirty words of eight elements
        x = Check.bench("rank r;" + Check.repeat("word r left:_\"a\"_\"a\"_\"a\"_\"a\";", 30), "1 a 1 a 1 a 1 a" + Check.repeat(" a 1 a 1 a 1 a", 3));
        Check.due("count(0, 8)", x.count(0, 8), 30);
        Check.due("quarrel", x.quarrel(), 8);
        Check.due("count(0, 29)", x.count(0, 29), 810000);
        Check.due("read", x.read(809999), 17);
    }
}
