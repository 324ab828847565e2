import java.nio.charset.StandardCharsets;

/** What the tests share: counting wrong answers, and bringing texts onto the tape. */
final class Check {
    private static int wrong = 0;

    private Check() {
    }

    static void due(String call, long got, long want) {
        if (got != want) {
            wrong++;
            System.out.println(call + " answered " + got + ", due is " + want);
        }
    }

    static void due(String call, boolean got, boolean want) {
        due(call, got ? 1 : 0, want ? 1 : 0);
    }

    static void finish(String test) {
        System.out.println(test + (wrong == 0 ? ": all answers are as due" : ": " + wrong + " wrong answers"));
        if (wrong != 0) {
            System.exit(1);
        }
    }

    /** Puts the text behind what is on the tape. */
    static void tape(MixfixBench bench, String text) {
        byte[] bytes = text.getBytes(StandardCharsets.ISO_8859_1);
        int before = bench.about(5);
        for (int at = 0; at < bytes.length; at += 20) {
            int[] number = new int[5];
            for (int n = 0; n < 20; n++) {
                int b = at + n < bytes.length ? bytes[at + n] & 255 : 32;
                number[n / 4] = number[n / 4] << 8 | b;
            }
            bench.feed(number[0], number[1], number[2], number[3], number[4]);
        }
        due("end(" + (before + bytes.length) + ")", bench.end(before + bytes.length), before + bytes.length);
    }

    static int book(MixfixBench bench, String text) {
        tape(bench, text);
        return bench.book();
    }

    static int sentence(MixfixBench bench, String text) {
        tape(bench, text);
        return bench.sentence();
    }

    /** A new bench with this book and this sentence, both of which must be taken. */
    static MixfixBench bench(String book, String sentence) {
        MixfixBench bench = new MixfixBench();
        due("book: " + book, book(bench, book) == MixfixBench.NONE, false);
        due("sentence: " + sentence, sentence(bench, sentence) == MixfixBench.NONE, false);
        return bench;
    }

    /** The nodes' words of the reading, as a text. */
    static String words(MixfixBench bench) {
        StringBuilder text = new StringBuilder();
        for (int n = 0; n < bench.about(4); n++) {
            text.append(n == 0 ? "" : " ").append(bench.node(n, 0));
        }
        return text.toString();
    }

    static void dueWords(String call, MixfixBench bench, String want) {
        String got = words(bench);
        if (!got.equals(want)) {
            wrong++;
            System.out.println(call + ": the nodes are " + got + ", due are " + want);
        }
    }

    static String repeat(String text, int times) {
        return text.repeat(times);
    }
}
