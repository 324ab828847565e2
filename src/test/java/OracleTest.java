import java.util.ArrayList;
import java.util.List;

/** Promises 7 to 9 and 11 to 18 on books and sentences by dice: all readings are written out as
    trees, put in order by the document's words, and compared with the bench's answers. */
public final class OracleTest {
    private static final String[] PARTS = {"a", "b", "+"};
    private static final int MOST_TREES = 3000;

    private static final class Element {
        String part;
        int kind;
    }

    private static final class Word {
        int rank;
        int lean;
        int kind;
        List<Element> elements = new ArrayList<>();
        List<String> steps;
        Integer value;

        boolean hole(int e) {
            return elements.get(e).part == null;
        }

        boolean first() {
            return hole(0);
        }

        boolean last() {
            return hole(elements.size() - 1);
        }
    }

    private static final class Tree {
        int word;
        int first;
        int end;
        int kind;
        List<Tree> inner = new ArrayList<>();
    }

    private static final class Ended extends Exception {
        private static final long serialVersionUID = 1;
        final int how;
        final Tree at;

        Ended(int how, Tree at) {
            this.how = how;
            this.at = at;
        }
    }

    private final Dice dice;
    private int ranks;
    private boolean[][] tighter;
    private int kinds;
    private int[] upper;
    private final List<Word> words = new ArrayList<>();
    private final StringBuilder text = new StringBuilder();
    private List<String> tokens = new ArrayList<>();
    private List<Tree>[][] trees;
    private boolean tooMany;

    private OracleTest(long seed) {
        dice = new Dice(seed);
    }

    public static void main(String[] args) {
        int compared = 0;
        int ambiguous = 0;
        for (int seed = 0; seed < 1500; seed++) {
            OracleTest test = new OracleTest(seed);
            test.throwBook();
            test.compareBook();
            for (int n = 0; n < 3; n++) {
                test.throwSentence();
                int readings = test.compareSentence();
                compared += readings > 0 ? 1 : 0;
                ambiguous += readings > 1 ? 1 : 0;
            }
        }
        Check.due("enough sentences have readings", compared > 500, true);
        Check.due("enough sentences have more than one", ambiguous > 200, true);
        System.out.println("OracleTest: " + compared + " sentences with readings, " + ambiguous + " with more than one");
        Check.finish("OracleTest");
    }

    private void throwBook() {
        ranks = 1 + dice.roll(3);
        tighter = new boolean[ranks][ranks];
        for (int r = 0; r < ranks; r++) {
            text.append("rank r").append(r).append(";\n");
        }
        for (int n = dice.roll(5); n > 0 && ranks > 1; n--) {
            int a = dice.roll(ranks);
            int b = dice.roll(ranks);
            // from greater to smaller there is never a ring
            if (a > b) {
                text.append("tighter r").append(a).append(" r").append(b).append("; ");
                tighter[a][b] = true;
            }
        }
        for (int middle = 0; middle < ranks; middle++) {
            for (int a = 0; a < ranks; a++) {
                for (int b = 0; b < ranks; b++) {
                    tighter[a][b] |= tighter[a][middle] && tighter[middle][b];
                }
            }
        }
        kinds = 1 + dice.roll(4);
        upper = new int[kinds];
        upper[0] = -1;
        for (int k = 1; k < kinds; k++) {
            upper[k] = dice.roll(k);
            text.append("kind k").append(k).append(upper[k] == 0 ? "" : " under k" + upper[k]).append(';');
        }
        for (int n = 2 + dice.roll(7); n > 0; n--) {
            throwWord();
        }
    }

    private int throwKind() {
        return dice.one(4) && kinds > 1 ? 1 + dice.roll(kinds - 1) : 0;
    }

    private void throwWord() {
        Word word = new Word();
        word.rank = dice.roll(ranks);
        word.kind = throwKind();
        boolean hole = dice.one(2);
        int size = 1 + dice.roll(5);
        boolean part = false;
        int holes = 0;
        for (int e = 0; e < size; e++) {
            Element element = new Element();
            if (hole && holes < 4 && (part || e + 1 < size)) {
                element.kind = throwKind();
                holes++;
                hole = false;
            } else {
                element.part = PARTS[dice.roll(PARTS.length)];
                part = true;
                hole = !dice.one(4);
            }
            word.elements.add(element);
        }
        if (word.first() || word.last()) {
            word.lean = dice.roll(3);
        }
        if (dice.one(2)) {
            throwSteps(word, holes);
        }
        words.add(word);
        tell(word);
    }

    private void throwSteps(Word word, int holes) {
        word.steps = new ArrayList<>();
        String signs = "+-*/%<";
        int pile = 0;
        for (int n = dice.roll(6); n > 0 || pile != 1; n--) {
            boolean put = pile < 2 || n > 0 && dice.one(2);
            if (put) {
                word.steps.add(holes > 0 && !dice.one(4) ? "@" + (1 + dice.roll(holes)) : "" + dice.roll(3));
                pile++;
            } else {
                word.steps.add("" + signs.charAt(dice.roll(6)));
                pile--;
            }
        }
    }

    private void tell(Word word) {
        text.append("word r").append(word.rank).append(new String[] {"", " left", " right"}[word.lean]);
        text.append(word.kind == 0 ? "" : " k" + word.kind).append(": ");
        for (Element element : word.elements) {
            if (element.part == null) {
                text.append(element.kind == 0 ? "_ " : "_ k" + element.kind + " ");
            } else {
                text.append('"').append(element.part).append('"');
            }
        }
        if (word.steps != null) {
            text.append(" = ").append(String.join(" ", word.steps));
        }
        text.append(";\n");
    }

    private boolean under(int a, int b) {
        for (int k = a; k >= 0; k = upper[k]) {
            if (k == b) {
                return true;
            }
        }
        return false;
    }

    private void compareBook() {
        MixfixBench bench = new MixfixBench();
        Check.due("book: " + text, Check.book(bench, text.toString()), words.size());
        for (int a = 0; a < ranks; a++) {
            for (int b = 0; b < ranks; b++) {
                Check.due("tighter(" + a + ", " + b + ") of " + text, bench.tighter(a, b), tighter[a][b] ? 1 : 0);
            }
        }
        for (int a = 0; a < kinds; a++) {
            for (int b = 0; b < kinds; b++) {
                Check.due("under(" + a + ", " + b + ") of " + text, bench.under(a, b), under(a, b) ? 1 : 0);
            }
        }
        for (int w = 0; w < words.size(); w++) {
            Word word = words.get(w);
            int holes = 0;
            for (int e = 0; e < word.elements.size(); e++) {
                holes += word.hole(e) ? 1 : 0;
            }
            int[] want = {word.rank, word.lean, word.kind, word.elements.size(), holes,
                (word.first() ? 1 : 0) + (word.last() ? 2 : 0), word.steps == null ? -1 : word.steps.size()};
            for (int what = 0; what < want.length; what++) {
                Check.due("word(" + w + ", " + what + ") of " + text, bench.word(w, what), want[what]);
            }
        }
        Check.due("sure() of " + text, bench.sure(), sure());
    }

    private int sure() {
        for (int a = 0; a < words.size(); a++) {
            for (int b = a; b < words.size(); b++) {
                if (against(words.get(a), words.get(b))) {
                    return 100 * a + b;
                }
            }
        }
        return -1;
    }

    private boolean against(Word a, Word b) {
        for (int e = 0; e < a.elements.size(); e++) {
            for (int f = 0; f < b.elements.size(); f++) {
                String part = a.elements.get(e).part;
                if (part != null && part.equals(b.elements.get(f).part) && (a != b || e != f)) {
                    return true;
                }
            }
        }
        if (a == b) {
            return a.first() && a.last() && a.lean == 0;
        }
        boolean ends = (a.first() || a.last()) && (b.first() || b.last());
        boolean apart = tighter[a.rank][b.rank] || tighter[b.rank][a.rank];
        boolean alike = a.rank == b.rank && a.lean == b.lean && a.lean != 0;
        return ends && !apart && !alike;
    }

    private void throwSentence() {
        List<String> thrown = new ArrayList<>();
        if (dice.one(3)) {
            for (int n = dice.roll(7); n >= 0; n--) {
                thrown.add(throwToken());
            }
        } else {
            grow(thrown, 3);
            while (thrown.size() > 10) {
                thrown.remove(thrown.size() - 1);
            }
        }
        tokens = thrown;
        for (Word word : words) {
            boolean bound = word.steps == null && word.elements.stream().allMatch(e -> e.part != null) && dice.one(2);
            word.value = bound ? Integer.valueOf(dice.roll(5) - 2) : null;
        }
    }

    private String throwToken() {
        String[] all = {"(", ")", "1", "0", "23", "d"};
        int n = dice.roll(PARTS.length + all.length);
        return n < PARTS.length ? PARTS[n] : all[n - PARTS.length];
    }

    /** Writes words that fit in the holes, without a look at what the holes take. */
    private void grow(List<String> into, int depth) {
        int n = depth == 0 ? 0 : dice.roll(8);
        if (n == 0) {
            into.add("" + dice.roll(4));
        } else if (n == 1) {
            into.add("(");
            grow(into, depth - 1);
            into.add(")");
        } else {
            for (Element element : words.get(dice.roll(words.size())).elements) {
                if (element.part == null) {
                    grow(into, depth - 1);
                } else {
                    into.add(element.part);
                }
            }
        }
    }

    /** How many readings the whole sentence has; -1 if too many to write out. */
    private int compareSentence() {
        int n = tokens.size();
        writeTrees(n);
        if (tooMany) {
            return -1;
        }
        MixfixBench bench = newBench();
        int quarrel = -1;
        for (int length = 1; length <= n; length++) {
            for (int first = 0; first + length <= n; first++) {
                int want = trees[first][first + length].size();
                Check.due("count(" + first + ", " + (first + length) + ") of " + tokens + " by " + text,
                    bench.count(first, first + length), want);
                quarrel = quarrel == -1 && want > 1 ? 100 * first + length : quarrel;
            }
        }
        Check.due("quarrel() of " + tokens + " by " + text, bench.quarrel(), quarrel);
        List<Tree> whole = trees[0][n];
        int step = 1 + whole.size() / 20;
        for (int k = 0; k < whole.size(); k += step) {
            compareReading(newBench(), k, whole.get(k));
        }
        Check.due("read(" + whole.size() + ") of " + tokens + " by " + text, newBench().read(whole.size()), -1);
        return whole.size();
    }

    private MixfixBench newBench() {
        MixfixBench bench = Check.bench(text.toString(), String.join(" ", tokens));
        for (int w = 0; w < words.size(); w++) {
            if (words.get(w).value != null) {
                Check.due("bind(" + w + ")", bench.bind(w, words.get(w).value), true);
            }
        }
        return bench;
    }

    @SuppressWarnings({"unchecked", "rawtypes"})
    private void writeTrees(int n) {
        trees = new List[n + 1][n + 1];
        tooMany = false;
        for (int length = 1; length <= n; length++) {
            for (int first = 0; first + length <= n; first++) {
                List<Tree> found = new ArrayList<>();
                trees[first][first + length] = found;
                writeStretch(first, first + length, found);
                found.sort(this::compareTrees);
            }
        }
    }

    private void writeStretch(int first, int end, List<Tree> found) {
        for (int w = words.size() - 1; w >= 0; w--) {
            writeWord(w, 0, first, first, end, new ArrayList<>(), found);
        }
        if (end - first == 1 && tokens.get(first).matches("[0-9]+")) {
            found.add(tree(-2, first, end, kinds > 1 ? 1 : 0, List.of()));
        }
        if (end - first > 2 && tokens.get(first).equals("(") && tokens.get(end - 1).equals(")")) {
            for (Tree inner : trees[first + 1][end - 1]) {
                found.add(tree(-3, first, end, inner.kind, List.of(inner)));
            }
        }
        tooMany |= found.size() > MOST_TREES;
    }

    private static Tree tree(int word, int first, int end, int kind, List<Tree> inner) {
        Tree tree = new Tree();
        tree.word = word;
        tree.first = first;
        tree.end = end;
        tree.kind = kind;
        tree.inner.addAll(inner);
        return tree;
    }

    private void writeWord(int w, int e, int first, int at, int end, List<Tree> inner, List<Tree> found) {
        Word word = words.get(w);
        if (found.size() > MOST_TREES) {
            return;
        }
        if (e == word.elements.size()) {
            if (at == end) {
                found.add(tree(w, first, end, word.kind, inner));
            }
        } else if (at < end && !word.hole(e)) {
            if (tokens.get(at).equals(word.elements.get(e).part)) {
                writeWord(w, e + 1, first, at + 1, end, inner, found);
            }
        } else if (at < end) {
            for (int middle = end; middle > at; middle--) {
                if (middle - at < end - first) {
                    for (Tree tree : trees[at][middle]) {
                        if (takes(word, e, tree)) {
                            inner.add(tree);
                            writeWord(w, e + 1, first, middle, end, inner, found);
                            inner.remove(inner.size() - 1);
                        }
                    }
                }
            }
        }
    }

    private boolean takes(Word word, int e, Tree tree) {
        if (!under(tree.kind, word.elements.get(e).kind)) {
            return false;
        }
        boolean first = e == 0;
        boolean last = e == word.elements.size() - 1;
        if (!first && !last || tree.word < 0) {
            return true;
        }
        Word inner = words.get(tree.word);
        if (!inner.first() && !inner.last() || tighter[inner.rank][word.rank]) {
            return true;
        }
        return inner.rank == word.rank && (first && word.lean == 1 || last && word.lean == 2);
    }

    private int compareTrees(Tree a, Tree b) {
        if (a.word != b.word) {
            return Integer.compare(a.word, b.word);
        }
        for (int h = 0; h < a.inner.size() && a.word >= 0; h++) {
            if (a.inner.get(h).end != b.inner.get(h).end) {
                return Integer.compare(a.inner.get(h).end, b.inner.get(h).end);
            }
        }
        for (int h = 0; h < a.inner.size(); h++) {
            int order = compareTrees(a.inner.get(h), b.inner.get(h));
            if (order != 0) {
                return order;
            }
        }
        return 0;
    }

    private void compareReading(MixfixBench bench, int k, Tree want) {
        String call = "read(" + k + ") of " + tokens + " by " + text;
        List<int[]> nodes = new ArrayList<>();
        List<Tree> inOrder = new ArrayList<>();
        flatten(want, -1, -1, nodes, inOrder);
        Check.due(call, bench.read(k), nodes.size());
        for (int n = 0; n < nodes.size(); n++) {
            for (int what = 0; what < 5; what++) {
                Check.due("node(" + n + ", " + what + ") after " + call, bench.node(n, what), nodes.get(n)[what]);
            }
        }
        int how = 0;
        int value = 0;
        int at = -1;
        try {
            value = work(want);
        } catch (Ended ended) {
            how = ended.how;
            at = inOrder.indexOf(ended.at);
        }
        Check.due("work() after " + call, bench.work(), how);
        Check.due("worked(0) after " + call, bench.worked(0), value);
        Check.due("worked(1) after " + call, bench.worked(1), at);
    }

    private static void flatten(Tree tree, int parent, int hole, List<int[]> nodes, List<Tree> inOrder) {
        int node = nodes.size();
        nodes.add(new int[] {tree.word, tree.first, tree.end - tree.first, parent, hole});
        inOrder.add(tree);
        for (int h = 0; h < tree.inner.size(); h++) {
            flatten(tree.inner.get(h), node, h, nodes, inOrder);
        }
    }

    private int work(Tree tree) throws Ended {
        List<Integer> values = new ArrayList<>();
        for (Tree inner : tree.inner) {
            values.add(work(inner));
        }
        if (tree.word == -2) {
            return Integer.parseInt(tokens.get(tree.first));
        }
        if (tree.word == -3) {
            return values.get(0);
        }
        Word word = words.get(tree.word);
        if (word.steps == null) {
            if (word.value == null) {
                throw new Ended(2, tree);
            }
            return word.value;
        }
        List<Integer> pile = new ArrayList<>();
        for (String step : word.steps) {
            if (step.startsWith("@")) {
                pile.add(values.get(step.charAt(1) - '1'));
            } else if (step.matches("[0-9]+")) {
                pile.add(Integer.parseInt(step));
            } else {
                int right = pile.remove(pile.size() - 1);
                int left = pile.remove(pile.size() - 1);
                pile.add(outcome(step.charAt(0), left, right, tree));
            }
        }
        return pile.get(0);
    }

    private static int outcome(char sign, int left, int right, Tree tree) throws Ended {
        if (right == 0 && (sign == '/' || sign == '%')) {
            throw new Ended(1, tree);
        }
        switch (sign) {
            case '+': return left + right;
            case '-': return left - right;
            case '*': return left * right;
            case '/': return left / right;
            case '%': return left % right;
            default: return left < right ? 1 : 0;
        }
    }
}
