/** The boundary cases of "1. BOOKS", sentence by sentence, and of promises 4 and 5. */
public final class BookBoundsTest {
    private static final String R = "rank r; ";
    private static final String W = "rank r; word r: ";
    private static final String SIGNS = ";:_=@+-*/%<";
    private static final String OPERATIONS = "+-*/%<";
    /** Each token parted from the next by a blank. */
    private static final String GOOD = "rank a ; rank b ; tighter a b ; kind k ; kind l under k ; word a : \"x\" ; "
        + "word b left l : _ k \"+\" \"-\" _ = 1 @ 2 + @ 1 999999999 - * ; word a right : _ \"!\" = 0 ; "
        + "word b k : \"[\" ; ";

    public static void main(String[] args) {
        texts();
        names();
        nameBytes();
        numbers();
        parts();
        partBytes();
        holeBytes();
        firstBytes();
        blanks();
        reserved();
        ranks();
        kinds();
        rings();
        elements();
        holes();
        withoutParts();
        leaning();
        steps();
        stepCount();
        pile();
        theEnd();
        noTokens();
        leftOut();
        firstByPlace();
        leastAtOnePlace();
        latestFault();
        bookStays();
        bookTaken();
        nothingStale();
        Check.finish("BookBoundsTest");
    }

    private static void fine(String text, int words) {
        Check.fine(text, words);
    }

    private static void faulty(String marked, int fault) {
        Check.faulty(marked, fault);
    }

    /** The text has this fault at this place; none if it is 0. */
    private static void due(String text, int fault, int place) {
        if (fault == 0) {
            MixfixBench x = new MixfixBench();
            Check.due("book: " + text, Check.book(x, text) >= 0, true);
            Check.due("fault(0) of: " + text, x.fault(0), 0);
            Check.due("fault(1) of: " + text, x.fault(1), -1);
        } else {
            faulty(text.substring(0, place) + "^" + text.substring(place), fault);
        }
    }

    private static boolean isLetter(int b) {
        return b >= 'a' && b <= 'z';
    }

    private static boolean isDigit(int b) {
        return b >= '0' && b <= '9';
    }

    private static boolean isBlank(int b) {
        return b == 32 || b == 10;
    }

    /** "a text of at most 2,000 bytes: book = {line}", so none, too. */
    private static void texts() {
        fine("", 0);
        fine(" ", 0);
        fine(Check.repeat("\n", 2000), 0);
        String last = "word r:\"a\";";
        fine(W + "\"b\";" + Check.repeat(" ", 2000 - W.length() - 4 - last.length()) + last, 2);
        faulty(Check.repeat(" ", 1999) + "^;", 2);
        faulty(Check.repeat(" ", 1999) + "^.", 1);
        faulty(Check.repeat(" ", 1993) + "rank a ^", 2);
        faulty("^" + Check.repeat(";", 2000), 2);
        faulty("^" + Check.repeat("a", 2000), 1);
        faulty("^" + Check.repeat("1", 2000), 1);
        faulty("^\"" + Check.repeat("a", 1999), 1);
        // the most tokens and lines that there can be
        fine("rank r;rank s;" + Check.repeat("tighter r s;", 165), 0);
    }

    /** "NAMES, a letter a .. z, then letters and digits, 8 at most". */
    private static void names() {
        String[] holes = {"rank #;", "kind #;", "kind k under #;", "tighter # r;", "tighter r #;", "word #: \"a\";",
            "word r #: \"a\";", "word r: \"a\" _ #;"};
        for (String hole : holes) {
            int place = hole.indexOf('#');
            String before = R + hole.substring(0, place) + "^";
            String behind = hole.substring(place + 1);
            faulty(before + "abcdefghi" + behind, 1);
            faulty(before + "a23456789" + behind, 1);
            faulty(before + Check.repeat("z", 1000) + behind, 1);
            faulty(before + "1" + behind, 2);
            faulty(before + "1a" + behind, 1);
            faulty(before + "A" + behind, 1);
        }
        for (String name : new String[] {"a", "z", "a0", "z9", "abcdefgh", "z1234567", "rankrank", "all"}) {
            fine("rank " + name + "; rank other; kind k" + name.substring(1) + "; kind l under k" + name.substring(1)
                + "; tighter " + name + " other; word " + name + " k" + name.substring(1) + ": \"a\" _ k"
                + name.substring(1) + ";", 1);
        }
        // all bytes count, the first and the eighth
        fine("rank abcdefgh; rank bbcdefgh; rank abcdefgi; rank abcdefg;", 0);
        faulty("rank abcdefgh; rank ^abcdefgh;", 3);
        faulty("rank abcdefgh; tighter ^abcdefg abcdefgh;", 3);
    }

    private static void nameBytes() {
        for (int b = 0; b < 256; b++) {
            String text = "rank a" + (char) b + "c;";
            if (isLetter(b) || isDigit(b)) {
                due(text, 0, -1);
            } else if (isBlank(b) || b == ';') {
                due(text, 2, 7);
            } else {
                due(text, SIGNS.indexOf(b) >= 0 && b != '_' ? 2 : 1, 6);
            }
        }
    }

    /** "NUMBERS, 1 to 9 digits (one digit is a DIGIT, too)"; "no letter or digit directly behind a NUMBER". */
    private static void numbers() {
        for (int digits = 1; digits <= 9; digits++) {
            fine(W + "\"a\" = " + Check.repeat("9", digits) + ";", 1);
            fine(W + "\"a\" = " + Check.repeat("0", digits) + ";", 1);
            faulty(W + "\"a\" = ^" + Check.repeat("1", digits) + "a;", 1);
            faulty(W + "\"a\" = ^" + Check.repeat("1", digits) + "z;", 1);
            faulty(W + "\"a\" _ = @ ^" + Check.repeat("1", digits) + "z;", 1);
        }
        faulty(W + "\"a\" = ^0000000001;", 1);
        faulty(W + "\"a\" = ^4294967297;", 1);
        faulty(W + "\"a\" = ^1234567890a;", 1);
        faulty(W + "\"a\" _ = @ ^1234567890;", 1);
        fine(W + "\"a\" _ = @ 1;", 1);
        faulty(W + "\"a\" _ = @ ^01;", 2);
        faulty(W + "\"a\" _ = @ ^11;", 2);
        for (int b = 0; b < 256; b++) {
            String before = W + "\"a\" = 1";
            String text = before + (char) b + ";";
            int at = before.length();
            if (isDigit(b) || isBlank(b)) {
                due(text, 0, -1);
            } else if (isLetter(b)) {
                due(text, 1, at - 1);
            } else if (OPERATIONS.indexOf(b) >= 0) {
                due(text, 5, at);
            } else if (b == ';' || b == '@') {
                due(text, 2, at + 1);
            } else {
                due(text, SIGNS.indexOf(b) >= 0 ? 2 : 1, at);
            }
        }
    }

    /** "PARTS: a " , 1 to 8 bytes .. not all of them digits, a " ". */
    private static void parts() {
        faulty(W + "^\"\";", 1);
        faulty(W + "^\"", 1);
        faulty(W + "\"a\" ^\"", 1);
        faulty(W + "^\"\"\";", 1);
        for (int bytes = 1; bytes <= 8; bytes++) {
            fine(W + "\"" + Check.repeat("a", bytes) + "\";", 1);
            fine(W + "\"" + Check.repeat("0", bytes - 1) + "a\";", 1);
            fine(W + "\"a" + Check.repeat("9", bytes - 1) + "\";", 1);
            faulty(W + "^\"" + Check.repeat("5", bytes) + "\";", 1);
            faulty(W + "^\"" + Check.repeat("a", bytes), 1);
            faulty(W + "^\"" + Check.repeat("a", bytes) + ";", 1);
            faulty(W + "^\"" + Check.repeat("a", bytes) + " \";", 1);
            faulty(W + "^\" " + Check.repeat("a", bytes) + "\";", 1);
        }
        faulty(W + "^\"abcdefghi\";", 1);
        faulty(W + "^\"123456789\";", 1);
        faulty(W + "^\"" + Check.repeat("a", 100) + "\";", 1);
        fine(W + "\"a\"\"b\"\"c\";", 1);
        // it is no token wherever it stands
        faulty("^\"\"", 1);
        faulty("^\"a\"", 2);
        faulty("rank ^\"1\";", 1);
        faulty("rank ^\"a\";", 2);
        faulty(W + "\"a\" = ^\"1\";", 1);
    }

    /** "bytes 33 .. 126 (but none of the three " ( ))". */
    private static void partBytes() {
        int at = W.length();
        for (int b = 0; b < 256; b++) {
            boolean may = b >= 33 && b <= 126 && b != '"' && b != '(' && b != ')';
            String within = W + "\"a" + (char) b + "c\";";
            if (b == '"') {
                due(within, 2, at + 3);
            } else {
                due(within, may ? 0 : 1, at);
            }
            due(W + "\"" + (char) b + "\";", may && !isDigit(b) ? 0 : 1, at);
            due(W + "\"" + Check.repeat("" + (char) b, 8) + "\";", may && !isDigit(b) ? 0 : 1, at);
        }
    }

    /** "no letter, digit directly behind a _ (else .. the _ is no TOKEN)". */
    private static void holeBytes() {
        String before = W + "\"a\" _";
        int at = before.length();
        for (int b = 0; b < 256; b++) {
            String text = before + (char) b + ";";
            if (isLetter(b) || isDigit(b)) {
                due(text, 1, at - 1);
            } else if (isBlank(b)) {
                due(text, 0, -1);
            } else if (b == ';') {
                due(text, 2, at + 1);
            } else if (b == '=') {
                due(text, 5, at + 1);
            } else {
                due(text, SIGNS.indexOf(b) >= 0 ? 2 : 1, at);
            }
        }
        faulty(W + "\"a\" _^", 2);
        faulty(W + "\"a\" ^_a", 1);
        faulty("^_a", 1);
        faulty("^_", 2);
        faulty("rank ^_9;", 1);
    }

    /** "the signs ; : _ = @ + - * / % <", and what else a token can begin with. */
    private static void firstBytes() {
        for (int b = 0; b < 256; b++) {
            String text = (char) b + " ;";
            if (isBlank(b)) {
                due(text, 2, 2);
            } else {
                due(text, isLetter(b) || isDigit(b) || SIGNS.indexOf(b) >= 0 ? 2 : 1, 0);
            }
        }
    }

    /** "Blanks (32, 10) part TOKENS or not". */
    private static void blanks() {
        fine(GOOD, 4);
        fine(GOOD.replace(" ", "\n"), 4);
        fine(GOOD.replace(" ", " \n \n"), 4);
        fine("\n " + GOOD + "\n ", 4);
        fine("rank r;word r:_\"a\"\"b\"_=1@2+@1-3*4/5%6<;", 1);
        fine("rank r;word r left:_ all\"a\";word r:\"a\";", 2);
        // without a blank it is one token, with one it is two
        faulty("^rankr;", 2);
        faulty("^ra nk r;", 2);
        faulty("rank r ^s;", 2);
        faulty("rank r\n^s;", 2);
        faulty(W + "\"a\" = 1 2^;", 5);
        fine(W + "\"a\" = 12;", 1);
    }

    /** "rank tighter kind under word left right are no other NAMES." */
    private static void reserved() {
        String[] places = {"rank ^#;", "tighter ^# r;", "tighter r ^#;", "kind ^#;", "kind k under ^#;", "word ^#: \"a\";",
            "word r: \"a\" _ ^#;", "word r all ^#: \"a\";", "word r left ^#: \"a\" _;", "kind k ^# k;"};
        for (String word : new String[] {"rank", "tighter", "kind", "under", "word", "left", "right"}) {
            for (String place : places) {
                if (!place.startsWith("kind k ^#") || !word.equals("under")) {
                    faulty(R + place.replace("#", word), 2);
                }
            }
            fine("rank " + word + "0; rank x" + word + ";", 0);
            fine("kind " + word.substring(1) + "; rank " + word.substring(0, word.length() - 1) + ";", 0);
            if (!word.equals("rank") && !word.equals("tighter") && !word.equals("kind") && !word.equals("word")) {
                faulty("^" + word + " r;", 2);
            }
        }
    }

    /** "RANKS (12 at most)"; "no NAME is told twice as a rank". */
    private static void ranks() {
        for (int ranks = 0; ranks <= 12; ranks++) {
            MixfixBench x = new MixfixBench();
            Check.due("book of " + ranks + " ranks", Check.book(x, Check.many("rank #;", ranks)), 0);
            Check.due("about(0)", x.about(0), ranks);
        }
        String twelve = Check.many("rank #;", 12);
        faulty(twelve + "^rank m;", 2);
        faulty(twelve + "^rank l;", 2);
        faulty(twelve + "^rank", 2);
        faulty(twelve + "^rank .", 2);
        faulty(twelve + "kind k; ^rank m;", 2);
        faulty(Check.many("rank #;", 11) + "rank ^k;", 3);
        faulty(Check.many("rank #;", 12) + "^ranks", 2);
        faulty("rank a; rank ^a;", 3);
        faulty("rank a; rank b; rank ^a", 3);
        fine("rank a; kind a; rank all;", 0);
        fine("kind a; rank a;", 0);
        // a word's first name is its rank, the last told one, too
        fine(twelve + "word l: \"a\"; tighter a l;", 1);
        faulty(twelve + "word ^m: \"a\";", 3);
    }

    /** "KINDS (10 at most, all besides, which is there ahead ..)"; "kind a under b: b is told ahead". */
    private static void kinds() {
        for (int kinds = 0; kinds <= 10; kinds++) {
            MixfixBench x = new MixfixBench();
            Check.due("book of " + kinds + " kinds", Check.book(x, Check.many("kind #;", kinds)), 0);
            Check.due("about(1)", x.about(1), kinds + 1);
        }
        String ten = Check.many("kind #;", 10);
        faulty(ten + "^kind k;", 2);
        faulty(ten + "^kind j;", 2);
        faulty(ten + "^kind all;", 2);
        faulty(ten + "^kind", 2);
        faulty(Check.many("kind #;", 9) + "kind ^i;", 3);
        fine(Check.many("kind #;", 9) + "kind j under i;", 0);
        faulty("kind ^all;", 3);
        faulty("kind a; kind ^a;", 3);
        faulty("kind a; kind ^a under a;", 3);
        faulty("kind a under ^a;", 3);
        faulty("kind a under ^b; kind b;", 3);
        faulty("rank b; kind a under ^b;", 3);
        fine("kind a under all; kind b under a;", 0);
        faulty("kind a under ^;", 2);
        fine(ten + R + "word r j: \"a\" _ j;", 1);
        faulty(ten + R + "word r ^k: \"a\";", 3);
        faulty(ten + R + "word r: \"a\" _ ^k;", 3);
        fine(R + "word r all: \"a\" _ all;", 1);
    }

    /** "4 a RING: tighter by which a RANK would be TIGHTER than itself: at its second NAME". */
    private static void rings() {
        String ranks = Check.many("rank #;", 12);
        StringBuilder chain = new StringBuilder();
        for (char rank = 'a'; rank <= 'l'; rank++) {
            for (char back = 'a'; back <= rank; back++) {
                faulty(ranks + chain + "tighter " + rank + " ^" + back + ";", 4);
                faulty(ranks + chain + "tighter " + rank + " ^" + back, 4);
            }
            if (rank < 'l') {
                fine(ranks + chain + "tighter " + rank + " " + (char) (rank + 1) + ";", 0);
                chain.append("tighter " + rank + " " + (char) (rank + 1) + ";");
            }
        }
        fine(ranks + chain + "tighter a l; tighter a b; tighter k l;", 0);
        // two chains that a third line joins
        faulty(ranks + "tighter a b; tighter c d; tighter b c; tighter d ^a;", 4);
        faulty(ranks + "tighter c d; tighter b c; tighter a b; tighter d ^b;", 4);
        fine(ranks + "tighter a b; tighter c b; tighter a c;", 0);
        faulty(ranks + "tighter a ^a b;", 4);
        faulty(ranks + "tighter a ^m;", 3);
        faulty(ranks + "tighter ^m m;", 3);
        faulty(ranks + "tighter ^m .", 3);
    }

    /** "A WORD has 1 to 8 elements"; "WORDs (30 at most)". */
    private static void elements() {
        for (int parts = 1; parts <= 8; parts++) {
            MixfixBench x = new MixfixBench();
            Check.due("book", Check.book(x, W + Check.repeat("\"a\"", parts) + ";"), 1);
            Check.due("word(0, 3)", x.word(0, 3), parts);
        }
        for (String ninth : new String[] {"\"a\"", "_", "_ all", "_ none", ":"}) {
            faulty(W + Check.repeat("\"a\"", 8) + "^" + ninth + ";", 2);
            faulty(W + Check.repeat("\"a\"", 8) + "^" + ninth, 2);
        }
        fine(W + Check.repeat("\"a\"", 8) + "= 1;", 1);
        fine(W + Check.repeat("\"a\"", 7) + "_ all;", 1);
        faulty(W + Check.repeat("\"a\"", 8) + "^all;", 2);
        faulty(W + "\"a\" ^rank s;", 2);
        faulty(W + "\"a\" ^word r: \"b\";", 2);
        String thirty = R + Check.repeat("word r:\"a\";", 30);
        fine(R + Check.repeat("word r:\"a\";", 29), 29);
        fine(thirty, 30);
        fine(thirty + "rank s; kind k;", 30);
        faulty(thirty + "^word r:\"a\";", 2);
        faulty(thirty + "^word none:\"a\";", 2);
        faulty(thirty + "^word", 2);
    }

    /** "4 HOLES at most, never two HOLES side by side". */
    private static void holes() {
        for (int holes = 1; holes <= 4; holes++) {
            MixfixBench x = new MixfixBench();
            Check.due("book", Check.book(x, W + Check.repeat("_ \"a\"", holes) + ";"), 1);
            Check.due("word(0, 4)", x.word(0, 4), holes);
            fine(W + Check.repeat("\"a\" _ all ", holes) + ";", 1);
            faulty(W + Check.repeat("\"a\" _ ", holes) + "^_;", 2);
            faulty(W + Check.repeat("\"a\" _ all ", holes) + "^_ \"a\";", 2);
        }
        faulty(W + Check.repeat("_ \"a\"", 4) + "^_;", 2);
        faulty(W + Check.repeat("\"a\" _ ", 4) + "^_;", 2);
        faulty(W + "_ ^_;", 2);
        faulty(W + "_ ^_ none;", 2);
        faulty(W + "_ ^none _;", 3);
        fine(W + "_ \"a\" \"b\" _;", 1);
    }

    /** "one PART at least"; "a WORD without a PART: at its = or ;". */
    private static void withoutParts() {
        for (String elements : new String[] {"", "_ ", "_ all "}) {
            faulty(W + elements + "^;", 2);
            faulty(W + elements + "^= ;", 2);
            faulty(W + elements + "^= .", 2);
            faulty(W + elements + "^", 2);
            faulty(W + elements + "^.", 1);
        }
        fine(W + "\"a\" ;", 1);
        fine(W + "_ \"a\" ;", 1);
        fine(W + "\"a\" _ ;", 1);
    }

    /** "left, right of one without ENDS .. : at that word's : ". */
    private static void leaning() {
        for (String lean : new String[] {"left", "right", "left all", "right all"}) {
            String before = R + "word r " + lean;
            fine(before + ": _ \"a\";", 1);
            fine(before + ": \"a\" _;", 1);
            fine(before + ": _ \"a\" _ = 1;", 1);
            faulty(before + "^: \"a\";", 2);
            faulty(before + "^: \"a\" _ \"b\";", 2);
            faulty(before + " ^: \"a\" = 1;", 2);
            // whatever comes behind the = or ;
            for (String behind : new String[] {"=", ";", "= ;", "= +;", "= @1;", "= .", "= 1", ";.", "; word none"}) {
                faulty(before + "\n^: \"a\" \"b\" " + behind, 2);
            }
            faulty(before + "^: ;", 2);
            faulty(before + "^: = 1;", 2);
            // "the elements being without a FAULT, a = or ; behind them"
            faulty(before + ": _ ^;", 2);
            faulty(before + ": _ ^= 1;", 2);
            faulty(before + ": \"a\"^", 2);
            faulty(before + ": \"a\" ^.;", 1);
            faulty(before + ": \"a\" ^:;", 2);
            faulty(before + ": \"a\" ^rank s;", 2);
            faulty(before + ": \"a\" _ ^none \"b\";", 3);
            faulty(before + ": \"a\" _ ^none;", 3);
            faulty(before + ": \"a\" _ ^_ \"b\";", 2);
            faulty(before + ": " + Check.repeat("\"a\"", 8) + "^\"a\";", 2);
            faulty(before + "^: " + Check.repeat("\"a\"", 8) + ";", 2);
        }
        fine(R + "word r: \"a\";", 1);
        // the fault is that word's
        faulty(R + "word r: \"a\"; word r left ^: \"a\"; word r right: \"a\";", 2);
    }

    /** "@ 1 .. 4 (the value of this HOLE)"; "@ of a HOLE that there is not". */
    private static void steps() {
        for (int holes = 0; holes <= 4; holes++) {
            String before = W + "\"a\"" + Check.repeat("_ \"a\"", holes) + " = ";
            if (holes == 4) {
                before = W + Check.repeat("_ \"a\"", 4) + " = ";
            }
            for (int digit = 0; digit <= 9; digit++) {
                if (digit >= 1 && digit <= holes) {
                    fine(before + "@" + digit + ";", 1);
                } else {
                    faulty(before + "^@" + digit + ";", 5);
                    faulty(before + "1 ^@ " + digit, 5);
                    faulty(before + "1 ^@\n" + digit + " .", 5);
                }
            }
        }
        // "read as a whole": what is no step is no fault 5
        faulty(W + "\"a\" = @^;", 2);
        faulty(W + "\"a\" = @^", 2);
        faulty(W + "\"a\" = @ ^a;", 2);
        faulty(W + "\"a\" = @ ^.;", 1);
        faulty(W + "\"a\" = @ ^+;", 2);
        faulty(W + "\"a\" = @ ^99;", 2);
        for (String none : new String[] {"a", "_", ":", "=", "\"a\"", "rank s", "left"}) {
            faulty(W + "\"a\" = ^" + none + ";", 2);
            faulty(W + "\"a\" = 1 ^" + none + ";", 2);
        }
        fine(W + "\"a\" = 999999999 000000000 <;", 1);
    }

    /** "steps (30 at most)"; "a 31st step at it". */
    private static void stepCount() {
        String a = W + "_ \"a\" = ";
        fine(a + "1;", 1);
        fine(a + "1" + Check.repeat(" 1+", 14) + ";", 1);
        MixfixBench x = new MixfixBench();
        Check.due("book", Check.book(x, a + "1" + Check.repeat(" 1+", 14) + ";"), 1);
        Check.due("word(0, 6)", x.word(0, 6), 29);
        // of thirty steps two are left, so they are no fault but at the ;
        String thirty = a + "1" + Check.repeat(" 1+", 14) + " @1";
        faulty(thirty + "^;", 5);
        faulty(thirty + "^", 2);
        faulty(thirty + "^.", 1);
        for (String step : new String[] {"+", "-", "*", "/", "%", "<", "1", "123456789", "@1", "@9", "@.", "@", "a", "rank s"}) {
            faulty(thirty + " ^" + step + ";", 2);
            faulty(thirty + " ^" + step, 2);
        }
        faulty(thirty + " ^1234567890;", 1);
    }

    /** "others take two off and put one on; behind the last just one is there; a pile has 16 at most". */
    private static void pile() {
        String a = W + "_ \"a\" = ";
        faulty(a + "^;", 5);
        faulty(a + "1 2^;", 5);
        faulty(a + "1 2 3 +^;", 5);
        for (char sign : OPERATIONS.toCharArray()) {
            faulty(a + "^" + sign + ";", 5);
            faulty(a + "^" + sign, 5);
            faulty(a + "1 ^" + sign + ";", 5);
            faulty(a + "@1 ^" + sign + ";", 5);
            faulty(a + "1 2 " + sign + "^" + sign + ";", 5);
            fine(a + "1 2" + sign + ";", 1);
            fine(a + "1 2 3" + sign + sign + ";", 1);
        }
        for (int many = 1; many <= 15; many++) {
            fine(a + Check.repeat("1 ", many) + Check.repeat("+", many - 1) + ";", 1);
        }
        faulty(a + Check.repeat("1 ", 16) + Check.repeat("+", 14) + "^;", 5);
        // sixteen on the pile are no fault: that comes at the ; or at the next step
        faulty(a + Check.repeat("1 ", 16) + "^;", 5);
        faulty(a + Check.repeat("@1 ", 16) + "^1;", 5);
        faulty(a + Check.repeat("1 ", 16) + "^@1;", 5);
        faulty(a + Check.repeat("1 ", 16) + "^@1", 5);
        faulty(a + Check.repeat("1 ", 16) + "+ 1 ^1;", 5);
        faulty(a + Check.repeat("1 ", 16) + "+ + 1 1 ^1;", 5);
        faulty(a + Check.repeat("1 ", 16) + "@^;", 2);
        faulty(a + Check.repeat("1 ", 16) + "@^a;", 2);
        faulty(a + Check.repeat("1 ", 16) + "@^.;", 1);
        faulty(a + Check.repeat("1 ", 16) + "@^12;", 2);
    }

    /** "the end: the text's length": the good book cut behind each token. */
    private static void theEnd() {
        int cuts = 0;
        for (int at = 0; at <= GOOD.length(); at++) {
            boolean behind = at == GOOD.length() || GOOD.charAt(at) == ' ';
            if (behind) {
                String text = GOOD.substring(0, at).trim();
                for (String blanks : new String[] {"", " ", "\n\n \n"}) {
                    due(text + blanks, text.endsWith(";") ? 0 : 2, text.length() + blanks.length());
                }
                cuts++;
            }
        }
        Check.due("it was cut often enough", cuts > 50, true);
    }

    /** "1 no TOKEN" and "2 one that can't stand there" ahead of each token of the good book. */
    private static void noTokens() {
        for (int at = 0; at < GOOD.length(); at++) {
            if (at == 0 || GOOD.charAt(at - 1) == ' ') {
                String before = GOOD.substring(0, at);
                String behind = GOOD.substring(at);
                for (String no : new String[] {".", "A", "\t", "\"\"", "\"1\"", "_a", "1a", "123456789a", "abcdefghi", "("}) {
                    due(before + no + " " + behind, 1, at);
                }
                boolean begins = at == 0 || before.endsWith("; ");
                due(before + "rank " + behind, 2, begins ? at + 5 : at);
            }
        }
    }

    /** "2 one that can't stand there": a token that is left out is missed at the next one, whatever comes behind that. */
    private static void leftOut() {
        faulty("rank ^; rank a a", 2);
        faulty("rank a ^rank a;", 2);
        faulty("^a ; .", 2);
        faulty("rank a; tighter ^; tighter a a;", 2);
        faulty("rank a; rank b; tighter a ^; tighter a a;", 2);
        faulty("rank a; rank b; tighter a b ^rank a;", 2);
        faulty("kind ^under a;", 2);
        faulty("kind a ^kind a;", 2);
        faulty("kind a ^all; .", 2);
        faulty("kind a under ^; .", 2);
        faulty("kind a under all ^kind a;", 2);
        faulty(R + "word ^: \"\";", 2);
        faulty(R + "word r ^_ _ \"a\";", 2);
        faulty(R + "word r ^\"a\" \"\";", 2);
        faulty(R + "word r left ^_ _;", 2);
        faulty(R + "word r left ^\"a\";", 2);
        faulty(R + "word r left all ^\"a\" _ none;", 2);
        faulty(R + "word r all ^= ;", 2);
        faulty(R + "word r ^; .", 2);
        faulty(R + "word r: \"a\" ^word r: \"a\" .", 2);
        faulty(R + "word r: \"a\" ^rank r;", 2);
        faulty(R + "word r: \"a\" ^+ 1 +;", 2);
        faulty(R + "word r: \"a\" = 1 ^rank r;", 2);
        faulty(R + "word r: \"a\" = 1 2 ^rank r;", 2);
        faulty(R + "word r: \"a\" _ = ^1a;", 1);
        faulty(R + "word r: \"a\" _ = @ ^; .", 2);
    }

    /** "FAULTS, the first by its place": of two lines with a fault each. */
    private static void firstByPlace() {
        String prelude = "rank r; rank s; kind k; tighter r s; ";
        String[] lines = {"rank ^A; ", "rank ^r; ", "rank t ^t; ", "tighter s ^r; ", "kind ^k; ", "kind l under ^m; ",
            "word ^q: \"a\"; ", "word r: ^; ", "word r left ^: \"a\"; ", "word r: \"a\" = ^+; ", "word r: \"a\" = ^; ",
            "word r: \"a\" _ = ^@2; ", "word r: \"a\" = 1 2 ^; ", "^. "};
        int[] faults = {1, 3, 2, 4, 3, 3, 3, 2, 2, 5, 5, 5, 5, 1};
        for (int one = 0; one < lines.length; one++) {
            for (int other = 0; other < lines.length; other++) {
                faulty(prelude + lines[one] + lines[other].replace("^", ""), faults[one]);
                faulty(prelude + "word r: \"x\";" + lines[one] + lines[other].replace("^", ""), faults[one]);
            }
        }
    }

    /** "at one place the least". */
    private static void leastAtOnePlace() {
        // 1 and 2
        faulty(W + Check.repeat("\"a\"", 8) + "^\"1\";", 1);
        faulty(W + Check.repeat("\"a\" _ ", 4) + "^_a;", 1);
        faulty(W + "_ ^_1;", 1);
        faulty(Check.many("rank #;", 12) + "^rank12345;", 1);
        // 2 and 5: a 31st step that would be a seventeenth on the pile, or ask for a hole that there is not
        String full = W + "\"a\" = " + Check.repeat("1 ", 16) + Check.repeat("+1 ", 7);
        faulty(full + "^1;", 2);
        faulty(full + "^@1;", 2);
        faulty(full + "^;", 5);
        faulty(full.substring(0, full.length() - 3) + "^;", 5);
        faulty(W + "\"a\" = " + Check.repeat("1 ", 16) + Check.repeat("+1 ", 6) + "^1;", 5);
        // 2 and 3: too many, the name being told already
        faulty(Check.many("rank #;", 12) + "^rank a;", 2);
        faulty(Check.many("kind #;", 10) + "^kind a;", 2);
    }

    /** "Of the latest book() what 0: its FAULT (0: without; ahead of any, too), 1: its place (NONE)." */
    private static void latestFault() {
        MixfixBench x = new MixfixBench();
        int[] whats = {-1, 2, 3, Integer.MIN_VALUE, Integer.MAX_VALUE};
        for (int what : whats) {
            Check.due("fault(" + what + ")", x.fault(what), -1);
        }
        Check.due("ahead of any: fault(0)", x.fault(0), 0);
        Check.due("ahead of any: fault(1)", x.fault(1), -1);
        String[] texts = {".", "", "rank a; rank a;", "rank a;", "rank a; tighter a a;", "a", " ."};
        int[][] want = {{1, 0}, {0, -1}, {3, 13}, {0, -1}, {4, 18}, {2, 0}, {1, 1}};
        for (int n = 0; n < texts.length; n++) {
            Check.due("book: " + texts[n], Check.book(x, texts[n]), want[n][0] == 0 ? 0 : -1);
            // neither asking, nor a sentence, nor the tape changes it
            for (int times = 0; times < 2; times++) {
                Check.due("fault(0) of: " + texts[n], x.fault(0), want[n][0]);
                Check.due("fault(1) of: " + texts[n], x.fault(1), want[n][1]);
                Check.due("fault(2)", x.fault(2), -1);
                Check.sentence(x, times == 0 ? "\t" : "1");
                Check.tape(x, "rank");
                x.end(0);
            }
        }
    }

    /** "NONE: a FAULT (the BOOK stays, and all else)"; "The TAPE (empty then, also at a FAULT)". */
    private static void bookStays() {
        String[] refused = {".", "rank x; rank y; rank z; kind m; kind n; word x: \"a\" = 9; word y: \"b\" .",
            "rank lo; rank hi; tighter lo hi; kind k; kind l under k; word hi right: \"a\" _ \"a\" _; word lo: ;",
            "rank lo; rank lo;", "word r:", "kind k; kind k;"};
        for (String text : refused) {
            MixfixBench x = Check.bench("rank lo; rank hi; tighter hi lo; kind k; word lo: \"a\"; word hi: \"b\" _ = @1 1 +;",
                "b a");
            x.bind(0, 7);
            x.read(0);
            x.work();
            String before = Check.picture(x);
            Check.due("book: " + text, Check.book(x, text), -1);
            Check.due("about(5): the tape is empty", x.about(5), 0);
            Check.dueText("after the refused " + text, Check.picture(x), before);
            Check.due("work", x.work(), 0);
            Check.due("worked(0): the value stays, and the steps", x.worked(0), 8);
            Check.due("read", x.read(0), 2);
            Check.due("work", x.work(), 0);
            Check.due("worked(0)", x.worked(0), 8);
            Check.due("book of the empty tape", x.book(), 0);
        }
    }

    /** "The SENTENCE is empty then, there is no READING, no WORD has a value." */
    private static void bookTaken() {
        String book = "rank r; word r: \"a\"; word r left: _ \"+\" _ = @1 @2 +;";
        MixfixBench x = new MixfixBench();
        for (int times = 0; times < 4; times++) {
            Check.due("book", Check.book(x, book), 2);
            Check.due("about(5): the tape is empty", x.about(5), 0);
            Check.due("about(3): the sentence is empty", x.about(3), 0);
            Check.due("about(4): no reading", x.about(4), 0);
            Check.due("count", x.count(0, 1), 0);
            Check.due("read", x.read(0), -1);
            Check.due("node", x.node(0, 0), -1);
            Check.due("work", x.work(), -1);
            Check.due("worked(0)", x.worked(0), 0);
            Check.due("worked(1)", x.worked(1), -1);
            Check.sentence(x, "1 + a");
            Check.due("read", x.read(0), 3);
            Check.due("work: no word has a value", x.work(), 2);
            Check.due("worked(1)", x.worked(1), 2);
            Check.due("bind", x.bind(0, 4), true);
            Check.due("work", x.work(), 0);
            Check.due("worked(0)", x.worked(0), 5);
        }
        Check.due("the empty book", x.book(), 0);
        Check.dueText("the empty book", Check.picture(x),
            "about 0 1 0 0 0 tighter under 1 count sure -1 quarrel -1 nodes worked 0 -1");
    }

    /** Of a book that was there before, of one with a fault, too, nothing is left in the next ones. */
    private static void nothingStale() {
        String full = Check.many("rank #;", 3) + "tighter a b; tighter b c;" + "kind k; kind l under k; kind m under l;"
            + "word a left m: _ m \"p\" _ l \"q\" _ k \"s\" _ = @1 @2 @3 @4 + + +; word b: \"o\";";
        String small = Check.many("rank #;", 3) + "kind k; kind l; kind m; word b: \"o\" _; word c: _ \"p\" \"q\";";
        for (String between : new String[] {"", full + "."}) {
            MixfixBench fresh = new MixfixBench();
            Check.book(fresh, small);
            Check.sentence(fresh, "o 1");
            fresh.read(0);
            fresh.work();
            MixfixBench x = new MixfixBench();
            for (int times = 0; times < 2; times++) {
                Check.book(x, full);
                x.bind(1, 5);
                Check.sentence(x, "1 p 2 q 3 s 4");
                x.read(0);
                x.work();
            }
            for (int times = 0; times < 2; times++) {
                if (!between.isEmpty()) {
                    Check.due("book with a fault", Check.book(x, between), -1);
                }
                Check.due("book", Check.book(x, small), 2);
                Check.sentence(x, "o 1");
                Check.due("read", x.read(0), 2);
                Check.due("work", x.work(), 2);
                Check.dueText("the small book behind the full one", Check.picture(x), Check.picture(fresh));
            }
        }
    }
}
