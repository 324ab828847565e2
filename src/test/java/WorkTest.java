/** Promises 15 to 17: bind, work, worked. */
public final class WorkTest {
    public static void main(String[] args) {
        bind();
        steps();
        wrapping();
        ended();
        worked();
        Check.finish("WorkTest");
    }

    private static void bind() {
        MixfixBench x = Check.bench("rank r; word r: \"x\"; word r: \"y\" = 5; word r: \"z\" _; word r: \"x\" \"y\";", "x");
        Check.due("bind(0)", x.bind(0, 3), true);
        Check.due("bind(1): it has steps", x.bind(1, 3), false);
        Check.due("bind(2): it has holes", x.bind(2, 3), false);
        Check.due("bind(3): more parts, no hole", x.bind(3, 8), true);
        Check.due("bind(4)", x.bind(4, 3), false);
        Check.due("bind(-1)", x.bind(-1, 3), false);
        Check.due("bind(greatest)", x.bind(Integer.MAX_VALUE, 3), false);
        Check.due("bind(least)", x.bind(Integer.MIN_VALUE, 3), false);
        x.read(0);
        dueWork(x, 0, 3, -1);
        Check.due("bind(0) again", x.bind(0, -2147483648), true);
        Check.due("worked(0): the latest work was before", x.worked(0), 3);
        dueWork(x, 0, -2147483648, -1);
        Check.sentence(x, "y");
        x.read(0);
        dueWork(x, 0, 5, -1);
        Check.sentence(x, "x y");
        x.read(0);
        dueWork(x, 0, 8, -1);
        Check.sentence(x, "z x");
        Check.due("read", x.read(0), 2);
        dueWork(x, 2, 0, 0);
        x = Check.bench("rank r; word r: \"x\";", "x");
        x.read(0);
        dueWork(x, 2, 0, 0);
        Check.due("bind to 0", x.bind(0, 0), true);
        dueWork(x, 0, 0, -1);
    }

    private static void dueWork(MixfixBench x, int how, int value, int node) {
        Check.due("work()", x.work(), how);
        Check.due("worked(0)", x.worked(0), value);
        Check.due("worked(1)", x.worked(1), node);
    }

    private static void dueValue(String steps, String sentence, int want) {
        MixfixBench x = Check.bench("rank r; rank s; tighter s r; word r: _ \"o\" _ = " + steps
            + "; word s: \"-\" _ = 0 @1 -; word s: \"m\" = 0 999999999 999999999 + 147483650 + -;", sentence);
        x.read(0);
        Check.due("work() of " + sentence + " by " + steps, x.work(), 0);
        Check.due("worked(0) of " + sentence + " by " + steps, x.worked(0), want);
        Check.due("worked(1)", x.worked(1), -1);
    }

    private static void steps() {
        dueValue("@1 @2 +", "7 o 2", 9);
        dueValue("@1 @2 -", "7 o 2", 5);
        dueValue("@2 @1 -", "7 o 2", -5);
        dueValue("@1 @2 *", "7 o 2", 14);
        dueValue("@1 @2 /", "7 o 2", 3);
        dueValue("@1 @2 %", "7 o 2", 1);
        dueValue("@1 @2 <", "7 o 2", 0);
        dueValue("@2 @1 <", "7 o 2", 1);
        dueValue("@1 @2 <", "2 o 2", 0);
        dueValue("@1 @2 /", "- 7 o 2", -3);
        dueValue("@1 @2 %", "- 7 o 2", -1);
        dueValue("@1 @2 /", "7 o - 2", -3);
        dueValue("@1 @2 %", "7 o - 2", 1);
        dueValue("@1 @2 <", "- 7 o 2", 1);
        dueValue("@1 0 *", "7 o 2", 0);
        dueValue("42", "7 o 2", 42);
        dueValue("1 2 3 @1 @2 - * + -", "7 o 2", 1 - (2 + 3 * 5));
        dueValue("@1 @2 +", "00000007 o ( ( 2 ) )", 9);
        dueValue("@1", "99999999 o 1", 99999999);
        dueValue("999999999", "1 o 1", 999999999);
        dueValue("1 2 3 4 5 6 7 8 9 10 11 12 13 14 15" + Check.repeat(" -", 14), "1 o 1", 8);
    }

    private static void wrapping() {
        dueValue("@1 @2 +", "m o 0", Integer.MIN_VALUE);
        dueValue("@1 @2 -", "m o 1", Integer.MAX_VALUE);
        dueValue("@1 @2 /", "m o - 1", Integer.MIN_VALUE);
        dueValue("@1 @2 %", "m o - 1", 0);
        dueValue("@1 @2 *", "99999999 o 99999999", 99999999 * 99999999);
        dueValue("@1 @2 <", "m o 0", 1);
        dueValue("@1 @1 + 1 -", "m o 0", -1);
    }

    private static void ended() {
        String book = "rank r; word r left: _ \"/\" _ = @1 @2 /; word r left: _ \"%\" _ = @1 @2 %;"
            + "word r: \"x\"; word r: \"f\" _ \",\" _ \"]\"; word r: \"both\" _ \",\" _ \"end\" = 7; word r: \"y\" _ \"y\";";
        MixfixBench x = Check.bench(book, "1 / 0");
        x.read(0);
        dueWork(x, 1, 0, 0);
        Check.sentence(x, "1 % 0");
        x.read(0);
        dueWork(x, 1, 0, 0);
        Check.sentence(x, "0 / 1 / ( 1 % 1 )");
        x.read(0);
        dueWork(x, 1, 0, 0);
        Check.sentence(x, "0 / ( 1 / 0 )");
        x.read(0);
        dueWork(x, 1, 0, 3);
        Check.sentence(x, "( 1 / 0 ) / x");
        x.read(0);
        dueWork(x, 1, 0, 2);
        Check.sentence(x, "x / ( 1 / 0 )");
        x.read(0);
        dueWork(x, 2, 0, 1);
        x.bind(2, 4);
        dueWork(x, 1, 0, 3);
        // a hole that no step asks for is worked, too
        Check.sentence(x, "both 1 , 2 / 0 end");
        Check.due("read", x.read(0), 5);
        dueWork(x, 1, 0, 2);
        Check.sentence(x, "both 1 , 2 / 1 end");
        x.read(0);
        dueWork(x, 0, 7, -1);
        // holes are worked before the word that has neither steps nor a value ends it
        Check.sentence(x, "y 1 / 0 y");
        x.read(0);
        dueWork(x, 1, 0, 1);
        Check.sentence(x, "y 1 / 1 y");
        x.read(0);
        dueWork(x, 2, 0, 0);
        Check.sentence(x, "both y 1 / 1 y , 1 / 0 end");
        Check.due("read", x.read(0), 8);
        dueWork(x, 2, 0, 1);
    }

    private static void worked() {
        MixfixBench x = Check.bench("rank r; word r: \"a\" = 3; word r: \"a\"; word r: \"b\" = 1 0 /;", "a");
        Check.due("work() without a reading", x.work(), -1);
        Check.due("worked(0)", x.worked(0), 0);
        Check.due("worked(1)", x.worked(1), -1);
        x.read(0);
        Check.due("worked(0) without work", x.worked(0), 0);
        Check.due("worked(1)", x.worked(1), -1);
        dueWork(x, 0, 3, -1);
        Check.due("worked(2)", x.worked(2), -1);
        Check.due("worked(-1)", x.worked(-1), -1);
        x.read(5);
        Check.due("worked(0): the reading stays", x.worked(0), 3);
        x.read(1);
        Check.due("worked(0): another reading", x.worked(0), 0);
        dueWork(x, 2, 0, 0);
        x.read(0);
        Check.due("worked(1): another reading", x.worked(1), -1);
        Check.sentence(x, "b");
        x.read(0);
        dueWork(x, 1, 0, 0);
        Check.sentence(x, "b");
        Check.due("worked(1): no reading", x.worked(1), -1);
        Check.due("work()", x.work(), -1);
    }
}
