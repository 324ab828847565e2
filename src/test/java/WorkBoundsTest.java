/** The boundary cases of promises 15 to 17, sentence by sentence. */
public final class WorkBoundsTest {
    private static final int LEAST = Integer.MIN_VALUE;
    private static final int GREATEST = Integer.MAX_VALUE;

    public static void main(String[] args) {
        bindNone();
        bindRefused();
        bindValues();
        workNone();
        ints();
        byZero();
        withoutValue();
        firstThatCannot();
        holesOfSteps();
        fullPile();
        greatestNumbers();
        deepest();
        workedNone();
        workedLatest();
        workedWhat();
        Check.finish("WorkBoundsTest");
    }

    private static void dueWork(String call, MixfixBench x, int how, int value, int node) {
        Check.due(call + ": work()", x.work(), how);
        Check.due(call + ": worked(0)", x.worked(0), value);
        Check.due(call + ": worked(1)", x.worked(1), node);
    }

    /** "false, doing nothing: none such". */
    private static void bindNone() {
        MixfixBench x = new MixfixBench();
        for (int word : new int[] {-1, 0, 1, GREATEST, LEAST}) {
            Check.due("bind(" + word + ") of the empty book", x.bind(word, 1), false);
        }
        for (int words : new int[] {1, 2, 30}) {
            x = Check.bench("rank r;" + Check.repeat("word r:\"a\";", words), "");
            Check.due("bind of the first", x.bind(0, 1), true);
            Check.due("bind of the last", x.bind(words - 1, 1), true);
            for (int word : new int[] {-1, words, words + 1, 32, 64, GREATEST, LEAST}) {
                Check.due("bind(" + word + ") of " + words, x.bind(word, 1), false);
            }
        }
        // a word that there was in the book before
        Check.due("book", Check.book(x, "rank r; word r: \"a\";"), 1);
        Check.due("bind(1)", x.bind(1, 1), false);
        Check.due("book", x.book(), 0);
        Check.due("bind(0)", x.bind(0, 1), false);
    }

    /** "false, doing nothing: .. it has steps, or HOLES." */
    private static void bindRefused() {
        String book = "rank r; word r: \"a\" = 3; word r: \"f\" _; word r: _ \"g\"; word r: \"h\" _ \"i\"; word r: \"j\" _ = @1;"
            + "word r: \"k\"; word r: \"l\" \"l\"; word r: \"m\"\"m\"\"m\"\"m\"\"m\"\"m\"\"m\"\"m\";";
        boolean[] want = {false, false, false, false, false, true, true, true};
        String[] sentences = {"a", "f a", "a g", "h a i", "j a", "k", "l l", "m m m m m m m m"};
        int[] how = {0, 2, 2, 2, 0, 0, 0, 0};
        int[] value = {3, 0, 0, 0, 3, 9, 9, 9};
        for (int w = 0; w < want.length; w++) {
            MixfixBench x = Check.bench(book, sentences[w]);
            x.read(0);
            x.work();
            String before = Check.picture(x);
            Check.due("bind(" + w + ")", x.bind(w, 9), want[w]);
            Check.dueText("bind changes no answer but work", Check.picture(x), before);
            dueWork(sentences[w], x, how[w], value[w], how[w] == 0 ? -1 : 0);
        }
    }

    /** "A WORD without steps has this value": any int, the latest one. */
    private static void bindValues() {
        MixfixBench x = Check.bench("rank r; word r: \"a\"; word r: \"b\"; word r: _ \"+\" _ = @1 @2 +;", "a + b");
        x.read(0);
        dueWork("neither has a value", x, 2, 0, 1);
        Check.due("bind", x.bind(1, 0), true);
        dueWork("just b has one", x, 2, 0, 1);
        Check.due("bind", x.bind(0, 0), true);
        dueWork("0 is a value", x, 0, 0, -1);
        for (int value : new int[] {1, -1, -2, GREATEST, LEAST, 0}) {
            Check.due("bind", x.bind(0, value), true);
            Check.due("bind", x.bind(1, 0), true);
            dueWork("a is " + value, x, 0, value, -1);
            Check.due("bind", x.bind(1, 1), true);
            dueWork("b is 1", x, 0, value + 1, -1);
        }
    }

    /** "NONE without one", at each place where there is no reading. */
    private static void workNone() {
        MixfixBench x = new MixfixBench();
        dueWork("a new object", x, -1, 0, -1);
        Check.sentence(x, "1");
        dueWork("a sentence that is not read", x, -1, 0, -1);
        Check.due("read(1)", x.read(1), -1);
        dueWork("a refused read", x, -1, 0, -1);
        Check.due("read(0)", x.read(0), 1);
        dueWork("a reading", x, 0, 1, -1);
        Check.sentence(x, "1");
        dueWork("a new sentence", x, -1, 0, -1);
        x.read(0);
        dueWork("a reading", x, 0, 1, -1);
        x.book();
        dueWork("a new book", x, -1, 0, -1);
        Check.sentence(x, "");
        x.read(0);
        dueWork("an empty sentence", x, -1, 0, -1);
    }

    private static void dueValue(String steps, int a, int b, int how, int value) {
        MixfixBench x = Check.bench("rank r; word r: _ \"o\" _ = " + steps + "; word r: \"a\"; word r: \"b\";", "a o b");
        x.bind(1, a);
        x.bind(2, b);
        x.read(0);
        dueWork(a + " and " + b + " by " + steps, x, how, value, how == 0 ? -1 : 0);
    }

    /** "Ints, wrapping; < is 1 or 0." */
    private static void ints() {
        int[] values = {LEAST, LEAST + 1, -65536, -7, -2, -1, 0, 1, 2, 7, 46341, 65536, GREATEST - 1, GREATEST};
        for (int a : values) {
            for (int b : values) {
                dueValue("@1 @2 +", a, b, 0, (int) ((long) a + b));
                dueValue("@1 @2 -", a, b, 0, (int) ((long) a - b));
                dueValue("@1 @2 *", a, b, 0, (int) ((long) a * b));
                dueValue("@1 @2 <", a, b, 0, a < b ? 1 : 0);
                dueValue("@1 @2 /", a, b, b == 0 ? 1 : 0, b == 0 ? 0 : (int) ((long) a / b));
                dueValue("@1 @2 %", a, b, b == 0 ? 1 : 0, b == 0 ? 0 : (int) ((long) a % b));
            }
        }
        dueValue("@1 @2 +", GREATEST, 1, 0, LEAST);
        dueValue("@1 @2 -", LEAST, 1, 0, GREATEST);
        dueValue("@1 @2 *", LEAST, -1, 0, LEAST);
        dueValue("@1 @2 /", LEAST, -1, 0, LEAST);
        dueValue("@1 @2 %", LEAST, -1, 0, 0);
        dueValue("@1 @2 *", 65536, 65536, 0, 0);
        dueValue("@1 @2 /", -7, 2, 0, -3);
        dueValue("@1 @2 %", -7, 2, 0, -1);
        dueValue("@1 @2 %", 7, -2, 0, 1);
        dueValue("@1 @2 <", LEAST, GREATEST, 0, 1);
        dueValue("@1 @2 <", 5, 5, 0, 0);
        // what is lower on the pile is the left one
        dueValue("@2 @1 -", 1, 10, 0, 9);
        dueValue("9 @1 @2 - -", 1, 10, 0, 18);
    }

    /** "1: an / or % by 0". */
    private static void byZero() {
        for (String sign : new String[] {"/", "%"}) {
            dueValue("@1 @2 " + sign, 0, 0, 1, 0);
            dueValue("@1 @2 " + sign, LEAST, 0, 1, 0);
            dueValue("@1 @2 " + sign, 0, 1, 0, 0);
            dueValue("@1 @2 @2 - " + sign, 5, 3, 1, 0);
            dueValue("1 0 " + sign, 5, 3, 1, 0);
            // the steps behind it do not undo it
            dueValue("1 0 " + sign + " 0 *", 5, 3, 1, 0);
            dueValue("7 1 0 " + sign + " 0 * +", 5, 3, 1, 0);
        }
        dueValue("@1 @2 *", 5, 0, 0, 0);
        dueValue("@1 @2 <", 0, 0, 0, 0);
        dueValue("@1 @2 -", 0, 0, 0, 0);
    }

    /** "2: a WORD that has neither steps nor a value". */
    private static void withoutValue() {
        String book = "rank r; word r: \"a\"; word r: \"[\" _ \"]\"; word r: \"b\" = 0; word r: \"{\" _ \"}\" = 5;";
        String[] sentences = {"a", "(a)", "[ 1 ]", "[ b ]", "[ a ]", "{ a }", "{ [ 1 ] }", "b", "{ b }"};
        int[] ended = {0, 1, 0, 0, 1, 1, 1, -1, -1};
        for (int n = 0; n < sentences.length; n++) {
            MixfixBench x = Check.bench(book, sentences[n]);
            x.read(0);
            boolean done = ended[n] == -1;
            dueWork(sentences[n], x, done ? 0 : 2, done && n == 8 ? 5 : 0, ended[n]);
        }
    }

    /** "a NODE's HOLES one by one, each wholly, then its steps; the first that can't be ends it." */
    private static void firstThatCannot() {
        String book = "rank r; word r: \"p\" _ \",\" _ \",\" _ \",\" _ = 1 0 /; word r: \"a\"; word r: \"z\" = 1 0 %;"
            + "word r: \"q\" _ \",\" _ \"!\"; word r: \"o\" _ \"!\" = @1;";
        String[] sentences = {"p 1 , 1 , 1 , 1", "p 1 , 1 , 1 , a", "p 1 , 1 , z , a", "p 1 , a , z , a", "p z , a , z , a",
            "p (z) , a , 1 , 1", "p 1 , 1 , 1 , z", "q z , a !", "q a , z !", "q 1 , a !", "q 1 , 1 !", "q ((1)) , 1 !",
            "p o o 1 ! ! , q 1 , a ! , z , 1", "p o o z ! ! , a , 1 , 1", "q q 1 , 1 ! , z !"};
        int[] how = {1, 2, 1, 2, 1, 1, 1, 1, 2, 2, 2, 2, 2, 1, 2};
        int[] node = {0, 4, 3, 2, 1, 2, 4, 1, 1, 2, 0, 0, 6, 3, 1};
        for (int n = 0; n < sentences.length; n++) {
            MixfixBench x = Check.bench(book, sentences[n]);
            Check.due("read of " + sentences[n], x.read(0) > 0, true);
            dueWork(sentences[n], x, how[n], 0, node[n]);
        }
    }

    /** "@ 1 .. 4 (the value of this HOLE)": the first, the last, one that is not asked, one that is asked twice. */
    private static void holesOfSteps() {
        String book = "rank r; word r: \"p\" _ \",\" _ \",\" _ \",\" _ = #; word r: \"a\" = 1 0 /;";
        String[] steps = {"@1", "@2", "@3", "@4", "@4 @1 -", "@2 @2 *", "5", "@1 10 * @2 + 10 * @3 + 10 * @4 +"};
        int[] want = {1, 2, 3, 4, 3, 4, 5, 1234};
        for (int n = 0; n < steps.length; n++) {
            MixfixBench x = Check.bench(book.replace("#", steps[n]), "p 1 , 2 , (3) , 4");
            x.read(0);
            dueWork(steps[n], x, 0, want[n], -1);
            Check.sentence(x, "p 1 , 2 , 3 , a");
            x.read(0);
            dueWork("a hole is worked, asked or not", x, 1, 0, 4);
        }
    }

    /** "a pile has 16 at most": sixteen and what takes them off are 31 steps, so fifteen are the most that can be worked. */
    private static void fullPile() {
        StringBuilder steps = new StringBuilder();
        for (int n = 1; n <= 15; n++) {
            steps.append(n).append(' ');
        }
        dueValue(steps + Check.repeat("+ ", 14), 0, 0, 0, 120);
        dueValue(steps + Check.repeat("- ", 14), 0, 0, 0, 8);
        dueValue("1" + Check.repeat(" 2 *", 14), 0, 0, 0, 16384);
        dueValue("@1" + Check.repeat(" @2 -", 14), 0, 3, 0, -42);
    }

    /** "NUMBERS, 1 to 9 digits" of a book, "1 to 8 digits" of a sentence. */
    private static void greatestNumbers() {
        dueValue("999999999", 0, 0, 0, 999999999);
        dueValue("000000000", 0, 0, 0, 0);
        dueValue("000000001", 0, 0, 0, 1);
        dueValue("999999999 999999999 + 999999999 +", 0, 0, 0, 999999999 * 3);
        for (String number : new String[] {"99999999", "00000000", "00000001", "10000000", "0"}) {
            MixfixBench x = Check.bench("", number);
            x.read(0);
            dueWork(number, x, 0, Integer.parseInt(number), -1);
        }
    }

    private static void deepest() {
        MixfixBench x = Check.bench("rank r; word r right: \"a\" _ = @1 2 *; word r left: _ \"b\" = @1 1 -; word r: \"z\";",
            Check.repeat("a ", 29) + "1");
        x.read(0);
        dueWork("29 in one another", x, 0, 1 << 29, -1);
        Check.sentence(x, "1 " + Check.repeat("b ", 29));
        x.read(0);
        dueWork("29 in one another", x, 0, -28, -1);
        Check.sentence(x, Check.repeat("a ", 29) + "z");
        x.read(0);
        dueWork("the innermost has no value", x, 2, 0, 29);
        x.bind(2, 1 << 30);
        dueWork("wrapping around", x, 0, 0, -1);
        Check.sentence(x, Check.repeat("(", 14) + "z" + Check.repeat(")", 14));
        x.read(0);
        dueWork("14 brackets", x, 0, 1 << 30, -1);
    }

    /** "0 and NONE without." */
    private static void workedNone() {
        MixfixBench x = Check.bench("rank r; word r: \"a\" = 3; word r: \"a\"; word r: \"b\" = 1 0 /;", "a");
        Check.due("worked(0) without a reading", x.worked(0), 0);
        Check.due("worked(1) without a reading", x.worked(1), -1);
        x.read(0);
        Check.due("worked(0) without work", x.worked(0), 0);
        Check.due("worked(1) without work", x.worked(1), -1);
        dueWork("done", x, 0, 3, -1);
        x.read(1);
        Check.due("worked(0) of another reading", x.worked(0), 0);
        dueWork("not done", x, 2, 0, 0);
        x.read(0);
        Check.due("worked(1) of another reading", x.worked(1), -1);
        dueWork("done", x, 0, 3, -1);
        Check.sentence(x, "b");
        Check.due("worked(0) of another sentence", x.worked(0), 0);
        x.read(0);
        dueWork("by 0", x, 1, 0, 0);
        Check.sentence(x, "b");
        Check.due("worked(1) of another sentence", x.worked(1), -1);
        x.read(0);
        x.work();
        x.book();
        Check.due("worked(1) of another book", x.worked(1), -1);
        Check.due("worked(0) of another book", x.worked(0), 0);
    }

    /** "Of the latest work() of THE READING". */
    private static void workedLatest() {
        MixfixBench x = Check.bench("rank r; word r: \"a\"; word r: _ \"/\" _ = @1 @2 /;", "8 / a");
        x.read(0);
        dueWork("no value", x, 2, 0, 2);
        x.bind(0, 2);
        Check.due("worked(1): bind does no work", x.worked(1), 2);
        dueWork("a value", x, 0, 4, -1);
        x.bind(0, 0);
        Check.due("worked(0): bind does no work", x.worked(0), 4);
        dueWork("by 0", x, 1, 0, 0);
        x.bind(0, -8);
        dueWork("done", x, 0, -1, -1);
        dueWork("done again", x, 0, -1, -1);
        // what is refused, or only asks, leaves it
        Check.due("read(1)", x.read(1), -1);
        Check.due("sentence", Check.sentence(x, "\t"), -1);
        Check.due("book", Check.book(x, "."), -1);
        Check.due("bind(1)", x.bind(1, 7), false);
        x.quarrel();
        x.sure();
        Check.due("worked(0)", x.worked(0), -1);
        Check.due("worked(1)", x.worked(1), -1);
    }

    /** Of what is no what there is none; the document tells of 0 and 1 alone. */
    private static void workedWhat() {
        MixfixBench x = Check.bench("", "5");
        for (int times = 0; times < 2; times++) {
            for (int what : new int[] {-1, 2, 3, GREATEST, LEAST}) {
                Check.due("worked(" + what + ")", x.worked(what), -1);
            }
            x.read(0);
            x.work();
        }
        Check.due("worked(0)", x.worked(0), 5);
    }
}
