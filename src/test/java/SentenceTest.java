/** Promise 10: sentence. */
public final class SentenceTest {
    private static final String BOOK = "rank r; word r: \"a\"; word r: \"abcdefgh\"; word r: \"~!\"; word r: \"1a\";";

    public static void main(String[] args) {
        tokens();
        refused();
        taken();
        Check.finish("SentenceTest");
    }

    private static void dueTokens(String text, int want) {
        MixfixBench x = new MixfixBench();
        Check.due("sentence: " + text, Check.sentence(x, text), want);
        Check.due("about(5): " + text, x.about(5), 0);
        Check.due("about(3): " + text, x.about(3), want == -1 ? 0 : want);
    }

    private static void tokens() {
        dueTokens("", 0);
        dueTokens(" \n \n", 0);
        dueTokens("a", 1);
        dueTokens("\na\nb ", 2);
        dueTokens("()((", 4);
        dueTokens("a(b)c", 5);
        dueTokens("a( b )c1;\"x\"", 5);
        dueTokens("12345678", 1);
        dueTokens("123456789", -1);
        dueTokens("abcdefgh", 1);
        dueTokens("abcdefghi", -1);
        dueTokens("abcdefgh(abcdefgh)abcdefgh", 5);
        dueTokens("abcdefgh abcdefghi", -1);
        dueTokens("!\"#$%&'*", 1);
        dueTokens("~", 1);
        dueTokens("\u007f", -1);
        dueTokens("a\tb", -1);
        dueTokens("\r", -1);
        dueTokens("a\0", -1);
        dueTokens("\u00e9", -1);
        dueTokens("\u001f", -1);
        dueTokens(Check.repeat("1 ", 30), 30);
        dueTokens(Check.repeat("1 ", 31), -1);
        dueTokens(Check.repeat("(", 30), 30);
        dueTokens(Check.repeat("(", 31), -1);
        dueTokens(Check.repeat("a(", 15), 30);
        dueTokens(Check.repeat("a(", 15) + "a", -1);
        dueTokens(Check.repeat("abcdefgh ", 30), 30);
    }

    private static void dueReadings(String text, int want) {
        MixfixBench x = Check.bench(BOOK, text);
        Check.due("count of: " + text, x.count(0, x.about(3)), want);
    }

    private static void refused() {
        MixfixBench x = Check.bench(BOOK, "( a )");
        Check.due("read", x.read(0), 2);
        Check.due("bind", x.bind(0, 5), true);
        Check.due("work", x.work(), 0);
        Check.due("sentence", Check.sentence(x, "a abcdefghi"), -1);
        Check.due("about(5): the tape is empty", x.about(5), 0);
        Check.due("about(3): the sentence stays", x.about(3), 3);
        Check.due("count", x.count(0, 3), 1);
        Check.due("about(4): the reading stays", x.about(4), 2);
        Check.due("worked(0)", x.worked(0), 5);
        Check.due("sentence", Check.sentence(x, Check.repeat("1 ", 31)), -1);
        Check.due("count(0, 1): nothing of the refused one is there", x.count(0, 1), 0);
        Check.due("node", x.node(1, 0), 0);
        Check.due("work", x.work(), 0);
    }

    private static void taken() {
        dueReadings("a", 1);
        dueReadings("b", 0);
        dueReadings("abcdefgh", 1);
        dueReadings("abcdefg", 0);
        dueReadings("~!", 1);
        dueReadings("1a", 1);
        dueReadings("1", 1);
        dueReadings("00000000", 1);
        dueReadings("(a)", 1);
        dueReadings("((1))", 1);
        dueReadings("()", 0);
        dueReadings("(", 0);
        dueReadings("a a", 0);
        MixfixBench x = Check.bench(BOOK, "( a )");
        Check.due("read", x.read(0), 2);
        Check.due("sentence", Check.sentence(x, "( a )"), 3);
        Check.due("about(4): no reading", x.about(4), 0);
        Check.due("work", x.work(), -1);
        Check.due("bind", x.bind(0, 5), true);
        Check.due("read", x.read(0), 2);
        Check.due("work", x.work(), 0);
        Check.due("sentence", x.sentence(), 0);
        Check.due("worked(0)", x.worked(0), 0);
        Check.due("read: an empty sentence has none", x.read(0), -1);
        Check.due("quarrel", x.quarrel(), -1);
        Check.due("sentence", Check.sentence(x, "a"), 1);
        Check.due("read", x.read(0), 1);
        Check.due("work: the word's value stays", x.work(), 0);
        Check.due("worked(0)", x.worked(0), 5);
    }
}
