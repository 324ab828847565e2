import java.math.BigInteger;
import java.util.ArrayList;
import java.util.HashMap;
import java.util.List;
import java.util.Map;

/** Promises 11, 13 and 14 on books and sentences by dice with so many readings that they can't be written out:
    they are counted without a limit, and reading k is found by leaving out the k before it. */
public final class BigOracleTest {
    private static final BigInteger GREATEST = BigInteger.valueOf(Long.MAX_VALUE);
    private static final String[] SHAPES = {"p_", "_p", "_p_", "p_p", "_p_p", "p_p_", "p_p_p", "_p_p_", "pp_", "_pp_",
        "p_p_p_p_", "_p_p_p_p"};

    private static final class Word {
        int rank;
        int lean;
        int kind;
        /** A p is a part, a _ a hole. */
        String shape;
        /** Of each element its part, or its kind. */
        String[] parts;
        int[] kinds;

        boolean closed() {
            return !shape.startsWith("_") && !shape.endsWith("_");
        }
    }

    /** What may stand at a place: of one kind or under it, and in an end of this word if there is one. */
    private record Place(int kind, Word word, boolean first, boolean last) {
    }

    private final Dice dice;
    private final int ranks;
    private final int kinds;
    private final int[] upper;
    /** How many parts the book knows, and how many of its words are of the first two shapes. */
    private final int parts;
    private final int often;
    /** One of so many kinds that are told is another one than all. */
    private final int kindly;
    private final String[] shapes = new String[4];
    private final List<Word> words = new ArrayList<>();
    private final StringBuilder text = new StringBuilder();
    private String[] tokens;
    private Map<String, BigInteger> known;
    private List<int[]> nodes;

    private BigOracleTest(long seed) {
        dice = new Dice(seed);
        ranks = 1 + dice.roll(3);
        kinds = 1 + dice.roll(3);
        upper = new int[kinds];
        parts = dice.one(3) ? 2 : 1;
        often = 1 + dice.roll(3);
        kindly = dice.one(2) ? 3 : 1000;
        for (int n = 0; n < shapes.length; n++) {
            shapes[n] = SHAPES[dice.roll(SHAPES.length)];
        }
    }

    public static void main(String[] args) {
        int[] seen = new int[3];
        for (int seed = 0; seed < 200; seed++) {
            BigOracleTest test = new BigOracleTest(seed);
            test.throwBook();
            for (int n = 0; n < 3; n++) {
                test.throwSentence();
                seen[test.compare()]++;
            }
        }
        System.out.println("BigOracleTest: " + seen[1] + " sentences with readings, " + seen[2] + " more with too many to tell");
        Check.due("enough sentences have readings", seen[1] > 150, true);
        Check.due("enough sentences have too many", seen[2] > 20, true);
        Check.finish("BigOracleTest");
    }

    /** The greater its number, the tighter is a rank. */
    private void throwBook() {
        for (int r = 0; r < ranks; r++) {
            text.append("rank r").append(r).append(';');
            text.append(r == 0 ? "" : "tighter r" + r + " r" + (r - 1) + ";");
        }
        for (int k = 1; k < kinds; k++) {
            upper[k] = dice.roll(k);
            text.append("kind k").append(k).append(upper[k] == 0 ? "" : " under k" + upper[k]).append(';');
        }
        for (int n = dice.one(3) ? 8 : 30; n > 0; n--) {
            throwWord();
        }
    }

    private int throwKind() {
        return dice.one(kindly) ? dice.roll(kinds) : 0;
    }

    private void throwWord() {
        Word word = new Word();
        word.shape = dice.one(4) ? "p" : shapes[dice.one(often) ? dice.roll(2) : dice.roll(shapes.length)];
        word.rank = dice.roll(ranks);
        word.lean = word.closed() ? 0 : dice.roll(3);
        word.kind = throwKind();
        word.parts = new String[word.shape.length()];
        word.kinds = new int[word.shape.length()];
        text.append("word r").append(word.rank).append(new String[] {"", " left", " right"}[word.lean]);
        text.append(word.kind == 0 ? "" : " k" + word.kind).append(':');
        for (int e = 0; e < word.shape.length(); e++) {
            if (word.shape.charAt(e) == 'p') {
                word.parts[e] = "" + (char) ('a' + dice.roll(parts));
                text.append('"').append(word.parts[e]).append('"');
            } else {
                word.kinds[e] = throwKind();
                text.append(word.kinds[e] == 0 ? "_" : "_ k" + word.kinds[e]);
            }
        }
        text.append(";\n");
        words.add(word);
    }

    private void throwSentence() {
        List<String> row = new ArrayList<>();
        int brackets = dice.one(2) ? 1 + dice.roll(3) : 0;
        int size = dice.one(3) ? 1 + dice.roll(22) : 22 + dice.roll(9);
        for (int n = Math.min(size, 30 - 2 * brackets); n > 0; n--) {
            row.add(dice.one(9) ? "1" : "" + (char) ('a' + dice.roll(parts)));
        }
        for (int n = 0; n < brackets; n++) {
            int first = dice.roll(row.size());
            row.add(first + 1 + dice.roll(row.size() - first), ")");
            row.add(first, "(");
        }
        tokens = row.toArray(new String[0]);
        known = new HashMap<>();
    }

    /** 0 if the sentence has no reading, 2 if it has more than are told. */
    private int compare() {
        String sentence = String.join(" ", tokens);
        MixfixBench bench = Check.bench(text.toString(), sentence);
        int n = tokens.length;
        int calls = 200;
        for (int first = 0; first < n; first++) {
            for (int end = first + 1; end <= n && calls < 480; end++, calls += 2) {
                BigInteger want = readings(first, end, null);
                Check.due("count(" + first + ", " + end + ") of " + sentence + " by " + text, bench.count(first, end), told(want));
            }
        }
        BigInteger all = readings(0, n, null);
        Check.due("count of " + sentence + " by " + text, bench.count(0, n), told(all));
        bench = Check.bench(text.toString(), sentence);
        for (int part = 0; part <= 4; part++) {
            BigInteger k = all.subtract(BigInteger.ONE).multiply(BigInteger.valueOf(part)).shiftRight(2).min(GREATEST);
            if (all.signum() > 0) {
                compareReading(bench, k.longValue());
            }
            bench = part % 2 == 0 ? bench : Check.bench(text.toString(), sentence);
        }
        boolean tooMany = all.compareTo(GREATEST) > 0;
        Check.due("read of one more", bench.read(tooMany ? -1 : all.longValue()), -1);
        return all.signum() == 0 ? 0 : tooMany ? 2 : 1;
    }

    private static long told(BigInteger count) {
        return count.compareTo(GREATEST) > 0 ? -2 : count.longValue();
    }

    private void compareReading(MixfixBench bench, long k) {
        String call = "read(" + k + ") of " + String.join(" ", tokens) + " by " + text;
        nodes = new ArrayList<>();
        write(BigInteger.valueOf(k), 0, tokens.length, null, -1, -1);
        Check.due(call, bench.read(k), nodes.size());
        for (int node = 0; node < nodes.size(); node++) {
            for (int what = 0; what < 5; what++) {
                Check.due("node(" + node + ", " + what + ") after " + call, bench.node(node, what), nodes.get(node)[what]);
            }
        }
    }

    private boolean under(int a, int b) {
        return a == b || a != 0 && under(upper[a], b);
    }

    private boolean takes(Place place, int kind, Word inner) {
        if (place == null) {
            return true;
        }
        boolean end = place.first || place.last;
        boolean fits = !end || inner == null || inner.closed() || inner.rank > place.word.rank
            || inner.rank == place.word.rank && (place.first && place.word.lean == 1 || place.last && place.word.lean == 2);
        return fits && under(kind, place.kind);
    }

    private static Place place(Word word, int e) {
        return new Place(word.kinds[e], word, e == 0, e == word.shape.length() - 1);
    }

    private boolean bracketed(int first, int end) {
        return end - first > 2 && tokens[first].equals("(") && tokens[end - 1].equals(")");
    }

    /** The place in brackets takes what is of the kind: brackets hide the word from an end. */
    private static Place inside(Place place) {
        return place == null ? null : new Place(place.kind, place.word, false, false);
    }

    private BigInteger plain(int first, int end, Place place) {
        if (end - first == 1) {
            return tokens[first].equals("1") && takes(place, kinds > 1 ? 1 : 0, null) ? BigInteger.ONE : BigInteger.ZERO;
        }
        return bracketed(first, end) ? readings(first + 1, end - 1, inside(place)) : BigInteger.ZERO;
    }

    private BigInteger readings(int first, int end, Place place) {
        String key = first + " " + end + (place == null ? "" : " " + place.kind + " " + (place.first || place.last
            ? words.indexOf(place.word) + " " + place.first : ""));
        BigInteger sum = known.get(key);
        if (sum == null) {
            sum = plain(first, end, place);
            for (Word word : words) {
                if (takes(place, word.kind, word)) {
                    sum = sum.add(ofWord(word, 0, first, end));
                }
            }
            known.put(key, sum);
        }
        return sum;
    }

    private BigInteger ofWord(Word word, int e, int at, int end) {
        int left = word.shape.length() - e;
        if (left == 0 || end - at < left) {
            return left == 0 && at == end ? BigInteger.ONE : BigInteger.ZERO;
        }
        if (word.shape.charAt(e) == 'p') {
            return tokens[at].equals(word.parts[e]) ? ofWord(word, e + 1, at + 1, end) : BigInteger.ZERO;
        }
        String key = "w" + words.indexOf(word) + " " + e + " " + at + " " + end;
        BigInteger sum = known.get(key);
        if (sum == null) {
            sum = BigInteger.ZERO;
            for (int middle = at + 1; middle <= end; middle++) {
                BigInteger rest = ofWord(word, e + 1, middle, end);
                if (rest.signum() != 0) {
                    sum = sum.add(rest.multiply(readings(at, middle, place(word, e))));
                }
            }
            known.put(key, sum);
        }
        return sum;
    }

    private void write(BigInteger k, int first, int end, Place place, int parent, int hole) {
        int node = nodes.size();
        BigInteger left = k;
        BigInteger count = plain(first, end, place);
        if (left.compareTo(count) < 0) {
            boolean number = end - first == 1;
            nodes.add(new int[] {number ? -2 : -3, first, end - first, parent, hole});
            if (!number) {
                write(left, first + 1, end - 1, inside(place), node, 0);
            }
            return;
        }
        left = left.subtract(count);
        for (int w = 0; w < words.size(); w++) {
            Word word = words.get(w);
            if (takes(place, word.kind, word)) {
                count = ofWord(word, 0, first, end);
                if (left.compareTo(count) < 0) {
                    nodes.add(new int[] {w, first, end - first, parent, hole});
                    split(left, word, 0, first, end, new ArrayList<>(), BigInteger.ONE, node);
                    return;
                }
                left = left.subtract(count);
            }
        }
    }

    /** Tries where the holes may end, the least first; what is left of k when this word's stretches are chosen. */
    private BigInteger split(BigInteger k, Word word, int e, int at, int end, List<int[]> holes, BigInteger ways, int node) {
        if (e == word.shape.length()) {
            if (at != end || k.compareTo(ways) >= 0) {
                return at == end ? k.subtract(ways) : k;
            }
            fill(k, word, holes, node);
            return BigInteger.ONE.negate();
        }
        if (ofWord(word, e, at, end).signum() == 0) {
            return k;
        }
        if (word.shape.charAt(e) == 'p') {
            return tokens[at].equals(word.parts[e]) ? split(k, word, e + 1, at + 1, end, holes, ways, node) : k;
        }
        BigInteger left = k;
        for (int middle = at + 1; middle <= end && left.signum() >= 0; middle++) {
            BigInteger more = ways.multiply(readings(at, middle, place(word, e)));
            if (more.signum() != 0) {
                holes.add(new int[] {e, at, middle});
                left = split(left, word, e + 1, middle, end, holes, more, node);
                holes.remove(holes.size() - 1);
            }
        }
        return left;
    }

    private void fill(BigInteger k, Word word, List<int[]> holes, int node) {
        for (int h = 0; h < holes.size(); h++) {
            BigInteger behind = BigInteger.ONE;
            for (int[] hole : holes.subList(h + 1, holes.size())) {
                behind = behind.multiply(readings(hole[1], hole[2], place(word, hole[0])));
            }
            int[] hole = holes.get(h);
            BigInteger own = k.divide(behind).mod(readings(hole[1], hole[2], place(word, hole[0])));
            write(own, hole[1], hole[2], place(word, hole[0]), node, h);
        }
    }
}
