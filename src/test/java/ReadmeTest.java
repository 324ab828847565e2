import java.io.IOException;
import java.nio.file.Files;
import java.nio.file.Path;
import java.util.List;

/** The example of README.md: its lines stand there as they stand here, and its answers are those that it tells. */
public final class ReadmeTest {
    public static void main(String[] args) throws IOException {
        example();
        List<String> readme = Files.readAllLines(Path.of("README.md"));
        boolean shown = false;
        int lines = 0;
        for (String line : Files.readAllLines(Path.of("src/test/java/ReadmeTest.java"))) {
            shown &= !line.trim().equals("// to here");
            if (shown) {
                lines++;
                Check.due("README.md has the line: " + line, tells(readme, line), true);
            }
            shown |= line.trim().equals("// from here");
        }
        Check.due("lines of the example", lines, 21);
        Check.finish("ReadmeTest");
    }

    /** The example stands eight blanks further in than in README.md, its helper four. */
    private static boolean tells(List<String> readme, String line) {
        return readme.contains(line.replaceFirst("^ {4}", "")) || readme.contains(line.replaceFirst("^ {8}", ""));
    }

    // from here
    static void tape(MixfixBench bench, String text) {
        for (int at = 0; at < text.length(); at += 20) {
            int[] four = new int[5];
            for (int n = 0; n < 20; n++) {
                four[n / 4] = four[n / 4] << 8 | (at + n < text.length() ? text.charAt(at + n) : ' ');
            }
            bench.feed(four[0], four[1], four[2], four[3], four[4]);
        }
        bench.end(text.length());
    }
    // to here

    private static void example() {
        // from here
        MixfixBench bench = new MixfixBench();
        tape(bench, "rank sum; rank times; tighter times sum; word sum left: _ \"+\" _ = @1 @2 +;"
            + " word times left: _ \"*\" _ = @1 @2 *; word sum: \"x\";");
        int words = bench.book();               // 3
        tape(bench, "x + 2 * 5");
        int tokens = bench.sentence();          // 5
        long readings = bench.count(0, tokens); // 1
        int nodes = bench.read(0);              // 5
        boolean bound = bench.bind(2, 4);       // true: x is word 2
        int how = bench.work();                 // 0: done
        int value = bench.worked(0);            // 14
        // to here
        Check.due("book()", words, 3);
        Check.due("sentence()", tokens, 5);
        Check.due("count(0, 5)", readings, 1);
        Check.due("read(0)", nodes, 5);
        Check.due("bind(2, 4)", bound, true);
        Check.due("work()", how, 0);
        Check.due("worked(0)", value, 14);
    }
}
