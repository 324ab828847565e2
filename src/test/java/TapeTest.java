/** Promises 1 to 3 and 6: a new object, feed, end, about. */
public final class TapeTest {
    public static void main(String[] args) {
        newObject();
        feed();
        end();
        about();
        Check.finish("TapeTest");
    }

    private static void newObject() {
        MixfixBench x = new MixfixBench();
        Check.due("NONE", MixfixBench.NONE, -1);
        Check.due("about(0)", x.about(0), 0);
        Check.due("about(1)", x.about(1), 1);
        Check.due("about(2)", x.about(2), 0);
        Check.due("about(3)", x.about(3), 0);
        Check.due("about(4)", x.about(4), 0);
        Check.due("about(5)", x.about(5), 0);
        Check.due("fault(0)", x.fault(0), 0);
        Check.due("fault(1)", x.fault(1), -1);
        Check.due("word(0, 0)", x.word(0, 0), -1);
        Check.due("tighter(0, 0)", x.tighter(0, 0), -1);
        Check.due("under(0, 0)", x.under(0, 0), 1);
        Check.due("under(0, 1)", x.under(0, 1), -1);
        Check.due("count(0, 0)", x.count(0, 0), 0);
        Check.due("count(0, 1)", x.count(0, 1), 0);
        Check.due("quarrel()", x.quarrel(), -1);
        Check.due("read(0)", x.read(0), -1);
        Check.due("node(0, 0)", x.node(0, 0), -1);
        Check.due("bind(0, 0)", x.bind(0, 0), false);
        Check.due("work()", x.work(), -1);
        Check.due("worked(0)", x.worked(0), 0);
        Check.due("worked(1)", x.worked(1), -1);
        Check.due("sure()", x.sure(), -1);
        Check.due("sentence()", x.sentence(), 0);
        Check.due("book()", x.book(), 0);
        Check.due("fault(0)", x.fault(0), 0);
    }

    private static void feed() {
        MixfixBench x = new MixfixBench();
        // "12 34567" and twelve blanks, the highest byte of each number first
        Check.due("feed", x.feed(0x31322033, 0x34353637, 0x20202020, 0x20202020, 0x20202020), 20);
        Check.due("sentence", x.sentence(), 2);
        Check.due("read", x.read(0), -1);
        for (int n = 1; n <= 100; n++) {
            Check.due("feed " + n, x.feed(0x20202020, 0x20202020, 0x20202020, 0x20202020, 0x20202020), 20 * n);
        }
        Check.due("feed 101", x.feed(-1, -1, -1, -1, -1), -1);
        Check.due("about(5)", x.about(5), 2000);
        Check.due("end(1981)", x.end(1981), 1981);
        Check.due("feed at 1981", x.feed(-1, -1, -1, -1, -1), -1);
        Check.due("about(5)", x.about(5), 1981);
        Check.due("end(1980)", x.end(1980), 1980);
        Check.due("feed at 1980", x.feed(0x20202020, 0x20202020, 0x20202020, 0x20202020, 0x20202020), 2000);
        Check.due("sentence: the bytes that did not come are not there", x.sentence(), 0);
        Check.due("feed", x.feed(0x28282828, 0x28282828, 0x28282828, 0x28282828, 0x28282829), 20);
        Check.due("sentence", x.sentence(), 20);
        x.feed(-1, 0, 0, 0, 0);
        Check.due("a byte 255", x.sentence(), -1);
        x.feed(0x80202020, 0x20202020, 0x20202020, 0x20202020, 0x20202020);
        Check.due("a byte 128", x.sentence(), -1);
        full();
    }

    /** The last byte of a full tape counts. */
    private static void full() {
        MixfixBench x = new MixfixBench();
        Check.tape(x, Check.repeat(" ", 1999) + "1");
        Check.due("about(5)", x.about(5), 2000);
        Check.due("sentence", x.sentence(), 1);
        Check.due("book", Check.book(x, Check.repeat(" ", 1987) + "rank abcdefgh"), -1);
        Check.due("fault(0)", x.fault(0), 2);
        Check.due("fault(1)", x.fault(1), 2000);
        Check.due("book", Check.book(x, Check.repeat(";", 2000)), -1);
        Check.due("fault(1)", x.fault(1), 0);
        String text = "rank r ; word r :";
        Check.due("book", Check.book(x, text + Check.repeat(" ", 2000 - text.length() - 4) + "\"a\";"), 1);
    }

    private static void end() {
        MixfixBench x = new MixfixBench();
        Check.due("end(0)", x.end(0), 0);
        Check.due("end(1)", x.end(1), -1);
        Check.due("end(-1)", x.end(-1), -1);
        x.feed(0x31203220, 0x33203420, 0x35203620, 0x37203820, 0x39203020);
        Check.due("end(21)", x.end(21), -1);
        Check.due("end(-2147483648)", x.end(Integer.MIN_VALUE), -1);
        Check.due("end(2147483647)", x.end(Integer.MAX_VALUE), -1);
        Check.due("about(5)", x.about(5), 20);
        Check.due("end(20)", x.end(20), 20);
        Check.due("end(3)", x.end(3), 3);
        Check.due("end(4): what is cut off is gone", x.end(4), -1);
        Check.due("feed", x.feed(0x20202020, 0x20202020, 0x20202020, 0x20202020, 0x20202037), 23);
        Check.due("sentence", x.sentence(), 3);
        Check.due("about(5)", x.about(5), 0);
    }

    private static void about() {
        MixfixBench x = Check.bench("rank a; rank b; kind k; word a: \"x\"; word b: \"y\"; word a: \"z\" _;", "z z y");
        Check.due("about(0)", x.about(0), 2);
        Check.due("about(1)", x.about(1), 2);
        Check.due("about(2)", x.about(2), 3);
        Check.due("about(3)", x.about(3), 3);
        Check.due("about(4)", x.about(4), 0);
        Check.due("about(5)", x.about(5), 0);
        Check.due("count", x.count(0, 3), 0);
        Check.due("sentence", Check.sentence(x, "z x"), 2);
        Check.due("read", x.read(0), 2);
        Check.due("about(4)", x.about(4), 2);
        Check.due("about(6)", x.about(6), -1);
        Check.due("about(-1)", x.about(-1), -1);
        Check.tape(x, "abc");
        Check.due("about(5)", x.about(5), 3);
    }
}
