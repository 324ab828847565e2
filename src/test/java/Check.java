import java.nio.charset.StandardCharsets;

/** What the tests share: counting wrong answers, and bringing texts onto the tape. */
final class Check {
    private static int wrong = 0;

    private Check() {
    }

    static void due(String call, long got, long want) {
        if (got != want) {
            wrong++;
            System.out.println(call + " answered " + got + ", due is " + want);
        }
    }

    static void due(String call, boolean got, boolean want) {
        due(call, got ? 1 : 0, want ? 1 : 0);
    }

    static void finish(String test) {
        System.out.println(test + (wrong == 0 ? ": all answers are as due" : ": " + wrong + " wrong answers"));
        if (wrong != 0) {
            System.exit(1);
        }
    }

    /** Puts the text behind what is on the tape. */
    static void tape(MixfixBench bench, String text) {
        byte[] bytes = text.getBytes(StandardCharsets.ISO_8859_1);
        int before = bench.about(5);
        for (int at = 0; at < bytes.length; at += 20) {
            int[] number = new int[5];
            for (int n = 0; n < 20; n++) {
                int b = at + n < bytes.length ? bytes[at + n] & 255 : 32;
                number[n / 4] = number[n / 4] << 8 | b;
            }
            bench.feed(number[0], number[1], number[2], number[3], number[4]);
        }
        due("end(" + (before + bytes.length) + ")", bench.end(before + bytes.length), before + bytes.length);
    }

    static int book(MixfixBench bench, String text) {
        tape(bench, text);
        return bench.book();
    }

    static int sentence(MixfixBench bench, String text) {
        tape(bench, text);
        return bench.sentence();
    }

    /** A new bench with this book and this sentence, both of which must be taken. */
    static MixfixBench bench(String book, String sentence) {
        MixfixBench bench = new MixfixBench();
        due("book: " + book, book(bench, book) == MixfixBench.NONE, false);
        due("sentence: " + sentence, sentence(bench, sentence) == MixfixBench.NONE, false);
        return bench;
    }

    /** The text is a book of so many words, without a fault. */
    static void fine(String text, int words) {
        MixfixBench x = new MixfixBench();
        due("book: " + text, book(x, text), words);
        due("fault(0) of: " + text, x.fault(0), 0);
        due("fault(1) of: " + text, x.fault(1), -1);
        due("about(5)", x.about(5), 0);
    }

    /** The text, a ^ being taken out of it, has this fault at the place of the ^. */
    static void faulty(String marked, int fault) {
        int place = marked.indexOf('^');
        String text = marked.substring(0, place) + marked.substring(place + 1);
        MixfixBench x = new MixfixBench();
        due("book: " + marked, book(x, text), -1);
        due("fault(0) of: " + marked, x.fault(0), fault);
        due("fault(1) of: " + marked, x.fault(1), place);
        due("fault(2)", x.fault(2), -1);
        due("fault(-1)", x.fault(-1), -1);
        due("about(5)", x.about(5), 0);
        due("about(0)", x.about(0), 0);
    }

    /** The line so many times, a # in it being a, b, c and on. */
    static String many(String line, int times) {
        StringBuilder text = new StringBuilder();
        for (int n = 0; n < times; n++) {
            text.append(line.replace("#", "" + (char) ('a' + n)));
        }
        return text.toString();
    }

    /** All that the bench tells of itself but fault and tape; some eighty calls for a small book. */
    static String picture(MixfixBench x) {
        StringBuilder text = new StringBuilder("about");
        for (int what = 0; what < 5; what++) {
            text.append(' ').append(x.about(what));
        }
        for (int w = 0; w < x.about(2); w++) {
            text.append(" word ").append(w);
            for (int what = 0; what < 7; what++) {
                text.append(' ').append(x.word(w, what));
            }
        }
        pairs(x, text);
        text.append(" sure ").append(x.sure()).append(" quarrel ").append(x.quarrel()).append(" nodes");
        for (int n = 0; n < x.about(4); n++) {
            for (int what = 0; what < 5; what++) {
                text.append(' ').append(x.node(n, what));
            }
        }
        return text.append(" worked ").append(x.worked(0)).append(' ').append(x.worked(1)).toString();
    }

    private static void pairs(MixfixBench x, StringBuilder text) {
        int ranks = x.about(0);
        int kinds = x.about(1);
        int tokens = x.about(3);
        text.append(" tighter");
        for (int pair = 0; pair < ranks * ranks; pair++) {
            text.append(' ').append(x.tighter(pair / ranks, pair % ranks));
        }
        text.append(" under");
        for (int pair = 0; pair < kinds * kinds; pair++) {
            text.append(' ').append(x.under(pair / kinds, pair % kinds));
        }
        text.append(" count");
        for (int first = 0; first < tokens; first++) {
            for (int end = first + 1; end <= tokens; end++) {
                text.append(' ').append(x.count(first, end));
            }
        }
    }

    static void dueText(String call, String got, String want) {
        if (!got.equals(want)) {
            wrong++;
            System.out.println(call + ": it is " + got + ", due is " + want);
        }
    }

    /** The nodes' words of the reading, as a text. */
    static String words(MixfixBench bench) {
        StringBuilder text = new StringBuilder();
        for (int n = 0; n < bench.about(4); n++) {
            text.append(n == 0 ? "" : " ").append(bench.node(n, 0));
        }
        return text.toString();
    }

    static void dueWords(String call, MixfixBench bench, String want) {
        dueText("the nodes after " + call, words(bench), want);
    }

    static String repeat(String text, int times) {
        return text.repeat(times);
    }
}
