/** Whatever is called, in whatever state: nothing is thrown, and the answers keep their bounds. */
public final class HardyTest {
    private static final String BOOK = "rank a; rank b; tighter b a; kind k; word a left: _ \"+\" _ = @1 @2 +;"
        + "word b right: \"-\" _ k; word a: \"x\"; word b: \"x\" _ \"y\" _ \"z\" = @2 @1 /; word a left: _ \"!\";";
    private static final String BYTES = "  \n()+-x y z!12034_:;=@\"abk*/%<.";

    private final Dice dice;
    private MixfixBench bench;

    private HardyTest(long seed) {
        dice = new Dice(seed);
        bench = new MixfixBench();
    }

    public static void main(String[] args) {
        for (int seed = 0; seed < 400; seed++) {
            HardyTest test = new HardyTest(seed);
            for (int call = 0; call < 512; ) {
                call += test.callSome();
            }
        }
        heavy();
        Check.finish("HardyTest");
    }

    private int anInt() {
        switch (dice.roll(8)) {
            case 0: return Integer.MIN_VALUE;
            case 1: return Integer.MAX_VALUE;
            case 2: return -1;
            case 3: return dice.roll(3000) - 500;
            default: return dice.roll(12);
        }
    }

    private int fourBytes() {
        int number = 0;
        for (int n = 0; n < 4; n++) {
            number = number << 8 | BYTES.charAt(dice.roll(BYTES.length()));
        }
        return dice.one(200) ? anInt() : number;
    }

    /** How many calls were made. */
    private int callSome() {
        switch (dice.roll(18)) {
            case 0: bench.feed(fourBytes(), fourBytes(), fourBytes(), fourBytes(), fourBytes()); return 1;
            case 1: bench.end(anInt()); return 1;
            case 2: return someBook();
            case 3: bench.fault(anInt()); return 1;
            case 4: Check.due("about", bench.about(dice.roll(6)) >= 0, true); return 1;
            case 5: bench.word(anInt(), anInt()); return 1;
            case 6: bench.tighter(anInt(), anInt()); return 1;
            case 7: bench.under(anInt(), anInt()); return 1;
            case 8: bench.sentence(); return 1;
            case 9: bench.count(anInt(), anInt()); return 1;
            case 10: bench.quarrel(); return 1;
            case 11: bench.read(anInt()); return 1;
            case 12: bench.read(Long.MAX_VALUE - dice.roll(3)); return 1;
            case 13: bench.node(anInt(), anInt()); return 1;
            case 14: bench.bind(anInt(), anInt()); return 1;
            case 15: bench.work(); return 1;
            case 16: bench.worked(anInt()); return 1;
            default: bench.sure(); return 1;
        }
    }

    private int someBook() {
        if (dice.one(3)) {
            Check.due("a book without fault", bench.book() == -1, bench.fault(0) != 0);
            return 2;
        }
        bench.end(0);
        Check.tape(bench, BOOK);
        bench.book();
        return 3 + BOOK.length() / 20 + 1;
    }

    /** The dearest calls on the fullest books. */
    private static void heavy() {
        String two = "_\"a\"_\"a\"_\"a\"_\"a\"";
        MixfixBench x = Check.bench("rank r;" + ("word r left:" + two + ";").repeat(28)
            + "word r:\"a\";word r left:_\"a\";", "a ".repeat(30));
        for (int n = 0; n < 60; n++) {
            Check.sentence(x, "a ".repeat(30));
            x.quarrel();
            Check.due("nodes", x.read(Long.MAX_VALUE) > 0 || x.count(0, 30) > 0, true);
            x.work();
        }
    }
}
