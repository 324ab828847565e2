/** The boundary cases of promises 1, 2, 3, 6 and 10, sentence by sentence. */
public final class TapeBoundsTest {
    private static final int BLANKS = 0x20202020;

    public static void main(String[] args) {
        newObject();
        feedBytes();
        feedFull();
        endBounds();
        aboutBounds();
        sentenceEmpty();
        sentenceTokens();
        sentenceBytes();
        sentenceRefused();
        sentenceTaken();
        lastCalls();
        Check.finish("TapeBoundsTest");
    }

    /** "An empty BOOK, SENTENCE and TAPE; no READING." */
    private static void newObject() {
        Check.dueText("a new object", Check.picture(new MixfixBench()),
            "about 0 1 0 0 0 tighter under 1 count sure -1 quarrel -1 nodes worked 0 -1");
        MixfixBench x = new MixfixBench();
        Check.due("about(5)", x.about(5), 0);
        Check.due("fault(0)", x.fault(0), 0);
        Check.due("fault(1)", x.fault(1), -1);
        Check.due("read(0)", x.read(0), -1);
        Check.due("work()", x.work(), -1);
        Check.due("end(1)", x.end(1), -1);
        // the empty book is one: a sentence can be read by it
        Check.due("sentence", Check.sentence(x, "( 7 )"), 3);
        Check.due("read(0)", x.read(0), 2);
        Check.due("work()", x.work(), 0);
        Check.due("worked(0)", x.worked(0), 7);
        MixfixBench other = new MixfixBench();
        Check.due("another object has its own tape", other.about(5), 0);
        Check.due("and its own sentence", other.about(3), 0);
        Check.due("and its own reading", other.about(4), 0);
    }

    /** "Twenty bytes come behind those on the TAPE, of each number the highest first: how many there are". */
    private static void feedBytes() {
        MixfixBench x = new MixfixBench();
        Check.due("feed on an empty tape", x.feed(0x31323334, 0x35363738, 0x20292820, 0x61626364, 0x65666768), 20);
        Check.due("feed behind it", x.feed(0x20392020, BLANKS, BLANKS, BLANKS, 0x20202030), 40);
        Check.due("feed behind an end", x.end(39), 39);
        Check.due("feed behind an end", x.feed(0x30202020, BLANKS, BLANKS, BLANKS, BLANKS), 59);
        Check.due("sentence", x.sentence(), 6);
        int[] numbers = {1, 0, 0, 0, 1, 1};
        for (int token = 0; token < 6; token++) {
            Check.due("count(" + token + ")", x.count(token, token + 1), numbers[token]);
        }
        // a byte above 127 is no negative one, in any place of a number
        for (int shift = 24; shift >= 0; shift -= 8) {
            int number = BLANKS ^ 0x20 << shift ^ 0x80 << shift;
            x.feed(number, BLANKS, BLANKS, BLANKS, BLANKS);
            Check.due("book", x.book(), -1);
            Check.due("fault(0)", x.fault(0), 1);
            Check.due("fault(1)", x.fault(1), 3 - shift / 8);
            x.feed(BLANKS, BLANKS, BLANKS, BLANKS, 0x20202020 ^ 0x20 << shift ^ 0xff << shift);
            Check.due("book", x.book(), -1);
            Check.due("fault(1)", x.fault(1), 19 - shift / 8);
        }
    }

    private static MixfixBench fed(int bytes) {
        MixfixBench x = new MixfixBench();
        Check.tape(x, Check.repeat(" ", bytes));
        Check.due("about(5)", x.about(5), bytes);
        return x;
    }

    /** "NONE, and nothing comes, if there would be more than 2,000." */
    private static void feedFull() {
        Check.due("feed on 1979", fed(1979).feed(BLANKS, BLANKS, BLANKS, BLANKS, BLANKS), 1999);
        Check.due("feed on 1980", fed(1980).feed(BLANKS, BLANKS, BLANKS, BLANKS, BLANKS), 2000);
        for (int bytes : new int[] {1981, 1999, 2000}) {
            MixfixBench x = fed(bytes);
            Check.due("feed on " + bytes, x.feed(-1, -1, -1, -1, -1), -1);
            Check.due("about(5)", x.about(5), bytes);
            Check.due("end: no byte came", x.end(bytes + 1), -1);
            Check.due("book", x.book(), 0);
            Check.due("feed on the tape that is empty again", x.feed(-1, -1, -1, -1, -1), 20);
        }
        MixfixBench x = fed(1980);
        x.feed(BLANKS, BLANKS, BLANKS, BLANKS, 0x2020203b);
        Check.due("book of 2,000 bytes", x.book(), -1);
        Check.due("fault(1): the last byte is there", x.fault(1), 1999);
        x = fed(1980);
        x.feed(BLANKS, BLANKS, BLANKS, BLANKS, 0x20202035);
        Check.due("sentence of 2,000 bytes", x.sentence(), 1);
        Check.due("count: the last byte is there", x.count(0, 1), 1);
    }

    /** "The TAPE has its first n bytes: n; NONE, doing nothing, if it has not so many, or n is below 0." */
    private static void endBounds() {
        for (int bytes : new int[] {0, 1, 20, 1999, 2000}) {
            MixfixBench x = fed(bytes);
            for (int n : new int[] {bytes + 1, 2001, Integer.MAX_VALUE, -1, Integer.MIN_VALUE}) {
                Check.due("end(" + n + ") of " + bytes, x.end(n), -1);
                Check.due("about(5)", x.about(5), bytes);
            }
            Check.due("end of all", x.end(bytes), bytes);
            Check.due("about(5)", x.about(5), bytes);
            if (bytes > 0) {
                Check.due("end of all but one", x.end(bytes - 1), bytes - 1);
                Check.due("end: the last one is gone", x.end(bytes), -1);
                Check.due("about(5)", x.about(5), bytes - 1);
            }
            Check.due("end(0)", x.end(0), 0);
            Check.due("about(5)", x.about(5), 0);
            Check.due("end(0) again", x.end(0), 0);
        }
        MixfixBench x = new MixfixBench();
        Check.tape(x, "12345 7");
        Check.due("end(8): refused, nothing is cut", x.end(8), -1);
        Check.due("end(-1): refused, nothing is cut", x.end(-1), -1);
        Check.due("sentence", x.sentence(), 2);
        Check.tape(x, "( 7 )");
        Check.due("end(4)", x.end(4), 4);
        Check.due("sentence: the first bytes stay", x.sentence(), 2);
        Check.due("count", x.count(1, 2), 1);
    }

    /** "NONE for another what." */
    private static void aboutBounds() {
        MixfixBench x = Check.bench("rank a; rank b; rank c; kind k; word a: \"x\" _;", "x ( 1 ) 2");
        Check.tape(x, "a");
        for (int what : new int[] {-1, 6, 7, 32, Integer.MAX_VALUE, Integer.MIN_VALUE}) {
            Check.due("about(" + what + ")", x.about(what), -1);
        }
        int[] want = {3, 2, 1, 5, 0, 1};
        for (int what = 0; what < 6; what++) {
            Check.due("about(" + what + ")", x.about(what), want[what]);
        }
    }

    private static void dueTokens(String text, int want) {
        MixfixBench x = new MixfixBench();
        Check.due("sentence: " + text, Check.sentence(x, text), want);
        Check.due("about(3): " + text, x.about(3), want == -1 ? 0 : want);
        Check.due("about(5): " + text, x.about(5), 0);
    }

    /** An empty tape is a sentence of no token, and takes the place of the one before. */
    private static void sentenceEmpty() {
        MixfixBench x = Check.bench("", "1");
        Check.due("read", x.read(0), 1);
        Check.due("sentence of an empty tape", x.sentence(), 0);
        Check.due("about(3)", x.about(3), 0);
        Check.due("about(4)", x.about(4), 0);
        Check.due("count", x.count(0, 1), 0);
        Check.due("read", x.read(0), -1);
        dueTokens(" ", 0);
        dueTokens("\n", 0);
        dueTokens(Check.repeat(" \n", 1000), 0);
    }

    /** "at most 30 TOKENS"; "( and ) are TOKENS by themselves"; "8 bytes .. at most". */
    private static void sentenceTokens() {
        for (String token : new String[] {"1 ", "(", ")", "a(", "abcdefgh ", "12345678\n", ") "}) {
            int each = token.equals("a(") ? 2 : 1;
            dueTokens(Check.repeat(token, 29 / each), 29 / each * each);
            dueTokens(Check.repeat(token, 30 / each), 30);
            dueTokens(Check.repeat(token, 30 / each) + "1", -1);
            dueTokens(Check.repeat(token, 30 / each) + "(", -1);
            dueTokens(Check.repeat(token, 30 / each) + ")", -1);
            dueTokens(Check.repeat(token, 30 / each) + " \n", 30);
            dueTokens(Check.repeat(token, 62 / each), -1);
        }
        dueTokens(Check.repeat("1", 8), 1);
        dueTokens(Check.repeat("1", 9), -1);
        dueTokens(Check.repeat("a", 16), -1);
        dueTokens(Check.repeat("a", 2000), -1);
        dueTokens("(abcdefgh)", 3);
        dueTokens("abcdefgh(i", 3);
        dueTokens("(abcdefghi)", -1);
        dueTokens("abcdefgh abcdefghi", -1);
        dueTokens("abcdefghi abcdefgh", -1);
        dueTokens("abcdefgh\nabcdefgh", 2);
    }

    /** "blanks (32, 10) part them"; "bytes 33 .. 126"; "another byte". */
    private static void sentenceBytes() {
        for (int b = 0; b < 256; b++) {
            int within = b == 32 || b == 10 ? 2 : b == '(' || b == ')' ? 3 : b >= 33 && b <= 126 ? 1 : -1;
            int alone = within == -1 ? -1 : within == 2 ? 0 : 1;
            MixfixBench x = new MixfixBench();
            Check.due("byte " + b + " between two", Check.sentence(x, "1" + (char) b + "2"), within);
            Check.due("byte " + b + " alone", Check.sentence(x, "" + (char) b), alone);
            Check.due("byte " + b + " last", Check.sentence(x, "a " + (char) b), alone == -1 ? -1 : alone + 1);
        }
    }

    /** "NONE (the SENTENCE stays)"; "There is no READING then, if it was taken." */
    private static void sentenceRefused() {
        String[] refused = {Check.repeat("1 ", 31), "9 123456789", "9 8 7 \t", "\u007f", "( ( ( ( \u0080"};
        for (String text : refused) {
            MixfixBench x = Check.bench("rank r; word r left: _ \"+\" _ = @1 @2 +;", "1 + 2");
            x.read(0);
            x.work();
            String before = Check.picture(x);
            Check.due("sentence: " + text, Check.sentence(x, text), -1);
            Check.due("about(5)", x.about(5), 0);
            Check.dueText("after the refused " + text, Check.picture(x), before);
            Check.due("work", x.work(), 0);
            Check.due("worked(0): the tokens stay", x.worked(0), 3);
            Check.due("read", x.read(0), 3);
            Check.due("fault(0)", x.fault(0), 0);
        }
        MixfixBench x = new MixfixBench();
        Check.due("ahead of any taken one", Check.sentence(x, "\t"), -1);
        Check.due("about(3)", x.about(3), 0);
    }

    private static void sentenceTaken() {
        MixfixBench x = Check.bench("rank r; word r left: _ \"+\" _ = @1 @2 +; word r: \"x\";", "x + 2");
        x.read(0);
        Check.due("bind", x.bind(1, 5), true);
        x.work();
        Check.due("worked(0)", x.worked(0), 7);
        Check.due("the same sentence", Check.sentence(x, "x + 2"), 3);
        Check.due("about(4): no reading", x.about(4), 0);
        Check.due("node", x.node(0, 0), -1);
        Check.due("work", x.work(), -1);
        Check.due("worked(0)", x.worked(0), 0);
        Check.due("worked(1)", x.worked(1), -1);
        Check.due("a shorter sentence", Check.sentence(x, "x"), 1);
        Check.due("count: nothing of the longer one is there", x.count(0, 3), 0);
        Check.due("read", x.read(0), 1);
        Check.due("work: the value stays", x.work(), 0);
        Check.due("worked(0)", x.worked(0), 5);
    }

    /** "An object is used for at most 512 calls": the last of them answers like the first. */
    private static void lastCalls() {
        MixfixBench x = new MixfixBench();
        for (int call = 0; call < 500; call++) {
            Check.due("feed", x.feed(BLANKS, BLANKS, BLANKS, BLANKS, BLANKS), call < 100 ? 20 * call + 20 : -1);
        }
        Check.due("end(0)", x.end(0), 0);
        Check.due("feed a rank", x.feed(0x72616e6b, 0x20723b77, 0x6f726420, 0x723a2261, 0x22203d37), 20);
        Check.due("feed a ;", x.feed(0x3b202020, BLANKS, BLANKS, BLANKS, BLANKS), 40);
        Check.due("book", x.book(), 1);
        Check.due("feed a sentence", x.feed(0x61202020, BLANKS, BLANKS, BLANKS, BLANKS), 20);
        Check.due("sentence", x.sentence(), 1);
        Check.due("count", x.count(0, 1), 1);
        Check.due("sure", x.sure(), -1);
        Check.due("read", x.read(0), 1);
        Check.due("node", x.node(0, 0), 0);
        Check.due("work", x.work(), 0);
        Check.due("call 512: worked(0)", x.worked(0), 7);
    }
}
