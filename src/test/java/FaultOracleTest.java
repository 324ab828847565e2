import java.util.ArrayList;
import java.util.HashSet;
import java.util.List;
import java.util.Set;
import java.util.regex.Matcher;
import java.util.regex.Pattern;

/** Promises 4 and 5 on books that are changed by dice, against a reader of another make. */
public final class FaultOracleTest {
    private static final Pattern TOKEN = Pattern.compile(
        "(?<name>[a-z][a-z0-9]*+)|(?<number>[0-9]++)(?![a-z])|(?<part>\"[!#-'*-~]{1,8}+\")|(?<sign>[;:=@+*/%<-]|_(?![a-z0-9]))");
    private static final Set<String> RESERVED = Set.of("rank", "tighter", "kind", "under", "word", "left", "right");

    private static final String[] BOOKS = {
        "rank lo; rank hi; tighter hi lo; word lo left : _ \"+\" _ = @1 @2 + ; word hi left : _ \"*\" _ = @1 @2 * ;"
            + " word hi : \"-\" _ = 0 @1 - ; word lo : \"if\" _ \"then\" _ \"else\" _ = @1 @2 @3 - * @3 + ; word lo : \"x\" ;",
        "rank r; kind num; kind bool; kind small under num; word r bool : _ num \"<\" _ num = @1 @2 < ;"
            + " word r num : \"if\" _ bool \"then\" _ num \"fi\" = @2 ; word r right small : \"one\" _ = 1 ;",
        "rank a; rank b; rank c; tighter a b; tighter b c; tighter a c; tighter c a; rank d;",
        "rank a; word a: \"a\" _ \"b\" _ \"c\" _ \"d\" _; word a: \"a\" \"b\" \"c\" \"d\" \"e\" \"f\" \"g\" \"h\" = 1 2 3 4 + + +;",
        "rank a; word a left: _ \"q\" = 1 1 1 1 1 1 1 1 1 1 1 1 1 1 1 + + + + + + + + + + + + + +;",
        "kind a;kind b;kind c;kind d;kind e;kind f;kind g;kind h;kind i;kind j;rank a;rank b;rank c;rank d;rank e;"
            + "rank f;rank g;rank h;rank i;rank j;rank k;rank l;word l j:\"x\";"};
    private static final String[] BITS = {"rank ", "tighter ", "kind ", "under ", "word ", "left ", "right ", "_ ",
        "\"p\"", "\"+\" ", "= ", "; ", ": ", "@ ", "@1 ", "1 ", "7", "+ ", "a", "b ", "r ", " ", "\n", ".", "\"", "(",
        "num ", "all ", "lo ", "hi ", "word r: \"p\" _;", "rank a;", "kind z;", "Z", "word a left: ", "tighter a a"};

    private static final class Fault extends Exception {
        private static final long serialVersionUID = 1;
        final int which;
        final int place;

        Fault(int which, int place) {
            this.which = which;
            this.place = place;
        }
    }

    /** Finds the first fault of a text. */
    private static final class Reader {
        private final String text;
        private int at = 0;
        private int start;
        private String token;
        /** n a name, k a reserved one, 1 a number, p a part, s a sign, e the end, ? no token */
        private char sort;
        private final List<String> ranks = new ArrayList<>();
        private final List<String> kinds = new ArrayList<>(List.of("all"));
        private final Set<String> told = new HashSet<>();
        private int words = 0;

        Reader(String text) {
            this.text = text;
        }

        int book() throws Fault {
            next();
            while (sort != 'e') {
                switch (sort == 'k' ? token : "") {
                    case "rank": rank(); break;
                    case "kind": kind(); break;
                    case "tighter": tighter(); break;
                    case "word": word(); break;
                    default: throw misplaced();
                }
                sign(";");
            }
            return words;
        }

        private void next() {
            while (at < text.length() && " \n".indexOf(text.charAt(at)) >= 0) {
                at++;
            }
            start = at;
            token = "";
            sort = 'e';
            if (at == text.length()) {
                return;
            }
            Matcher match = TOKEN.matcher(text).region(at, text.length());
            match.useTransparentBounds(true);
            sort = '?';
            if (!match.lookingAt()) {
                return;
            }
            token = match.group();
            at = match.end();
            if (match.group("name") != null && token.length() <= 8) {
                sort = RESERVED.contains(token) ? 'k' : 'n';
            } else if (match.group("number") != null && token.length() <= 9) {
                sort = '1';
            } else if (match.group("part") != null && !token.matches("\"[0-9]*\"")) {
                sort = 'p';
            } else if (match.group("sign") != null) {
                sort = 's';
            }
        }

        private Fault misplaced() {
            return new Fault(sort == '?' ? 1 : 2, start);
        }

        private boolean isSign(String sign) {
            return sort == 's' && token.equals(sign);
        }

        private void sign(String sign) throws Fault {
            if (!isSign(sign)) {
                throw misplaced();
            }
            next();
        }

        private String name(List<String> known, boolean isKnown) throws Fault {
            if (sort != 'n') {
                throw misplaced();
            }
            if (known.contains(token) != isKnown) {
                throw new Fault(3, start);
            }
            String name = token;
            next();
            return name;
        }

        private void room(int number, int most) throws Fault {
            if (number == most) {
                throw misplaced();
            }
            next();
        }

        private void rank() throws Fault {
            room(ranks.size(), 12);
            ranks.add(name(ranks, false));
        }

        private void kind() throws Fault {
            room(kinds.size(), 11);
            String kind = name(kinds, false);
            if (sort == 'k' && token.equals("under")) {
                next();
                name(kinds, true);
            }
            kinds.add(kind);
        }

        private void tighter() throws Fault {
            next();
            String a = name(ranks, true);
            int second = start;
            String b = name(ranks, true);
            if (reaches(b, a)) {
                throw new Fault(4, second);
            }
            told.add(a + " " + b);
        }

        private boolean reaches(String from, String to) {
            if (from.equals(to)) {
                return true;
            }
            for (String rank : ranks) {
                if (told.contains(from + " " + rank) && reaches(rank, to)) {
                    return true;
                }
            }
            return false;
        }

        private void word() throws Fault {
            room(words, 30);
            words++;
            name(ranks, true);
            boolean leans = sort == 'k' && (token.equals("left") || token.equals("right"));
            if (leans) {
                next();
            }
            if (sort == 'n') {
                name(kinds, true);
            }
            int colon = start;
            sign(":");
            StringBuilder shape = new StringBuilder();
            while (!isSign("=") && !isSign(";")) {
                String longer = shape + (sort == 'p' ? "p" : isSign("_") ? "_" : "?");
                if (!longer.matches("(?=[^_]*(_[^_]*){0,4}$)(?!.*__)[p_]{1,8}")) {
                    throw misplaced();
                }
                shape.append(longer.charAt(longer.length() - 1));
                next();
                if (longer.endsWith("_") && sort == 'n') {
                    name(kinds, true);
                }
            }
            if (leans && !shape.toString().matches("_.*|.*_")) {
                throw new Fault(2, colon);
            }
            if (shape.indexOf("p") < 0) {
                throw misplaced();
            }
            if (isSign("=")) {
                next();
                steps(shape.toString().replace("p", "").length());
            }
        }

        private void steps(int holes) throws Fault {
            int pile = 0;
            for (int n = 0; !isSign(";"); n++) {
                int place = start;
                boolean hole = isSign("@");
                boolean put = hole || sort == '1';
                if (!put && !(sort == 's' && "+-*/%<".contains(token)) || n == 30) {
                    throw misplaced();
                }
                if (hole) {
                    next();
                    if (sort != '1' || token.length() != 1) {
                        throw misplaced();
                    }
                    if (token.equals("0") || Integer.parseInt(token) > holes) {
                        throw new Fault(5, place);
                    }
                }
                pile += put ? 1 : -1;
                if (pile < 1 || pile > 16) {
                    throw new Fault(5, place);
                }
                next();
            }
            if (pile != 1) {
                throw new Fault(5, start);
            }
        }
    }

    public static void main(String[] args) {
        int[] seen = new int[6];
        for (int seed = 0; seed < 60000; seed++) {
            Dice dice = new Dice(seed);
            String text = change(BOOKS[dice.roll(BOOKS.length)], dice);
            if (text.length() <= 2000) {
                seen[compare(text)]++;
            }
        }
        for (int which = 0; which <= 5; which++) {
            Check.due("fault " + which + " was seen often enough", seen[which] > 100, true);
        }
        Check.finish("FaultOracleTest");
    }

    private static final MixfixBench[] BENCH = {new MixfixBench()};
    private static int calls = 0;

    private static int compare(String text) {
        // a bench answers for 512 calls alone
        calls += 110;
        if (calls > 400) {
            BENCH[0] = new MixfixBench();
            calls = 0;
        }
        int fault = 0;
        int place = -1;
        int words = -1;
        try {
            words = new Reader(text).book();
        } catch (Fault found) {
            fault = found.which;
            place = found.place;
        }
        Check.due("book() of " + text, Check.book(BENCH[0], text), words);
        Check.due("fault(0) of " + text, BENCH[0].fault(0), fault);
        Check.due("fault(1) of " + text, BENCH[0].fault(1), place);
        return fault;
    }

    private static String change(String book, Dice dice) {
        StringBuilder text = new StringBuilder(book);
        for (int n = dice.roll(4); n > 0; n--) {
            int at = dice.roll(text.length() + 1);
            int gone = Math.min(text.length() - at, dice.roll(3) * dice.roll(5));
            switch (dice.roll(4)) {
                case 0: text.delete(at, at + gone); break;
                case 1: text.insert(at, BITS[dice.roll(BITS.length)]); break;
                case 2: text.replace(at, at + gone, BITS[dice.roll(BITS.length)]); break;
                default: text.insert(at, text.substring(at, Math.min(text.length(), at + dice.roll(40)))); break;
            }
        }
        return text.toString();
    }
}
