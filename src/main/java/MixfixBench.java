/** A bench for languages whose words have holes anywhere; ../shared/DOC.md tells what it promises. */
public final class MixfixBench {
    public static final int NONE = -1;

    private static final int MAX_BYTES = 2000;
    private static final int MAX_RANKS = 12;
    /** Ten told ones, and all. */
    private static final int MAX_KINDS = 11;
    private static final int MAX_WORDS = 30;
    private static final int MAX_ELEMENTS = 8;
    private static final int MAX_HOLES = 4;
    private static final int MAX_STEPS = 30;
    private static final int MAX_PILE = 16;
    private static final int MAX_TOKENS = 30;
    /** A name, a part, a token of a sentence: its bytes fill one long, the first one highest. */
    private static final int MAX_TEXT = 8;
    /** How many stretches 0 <= first < end <= MAX_TOKENS there are. */
    private static final int MAX_ROWS = MAX_TOKENS * (MAX_TOKENS + 1) / 2;

    private static final int LEFT = 1;
    private static final int RIGHT = 2;

    private static final int NUMBER_NODE = -2;
    private static final int BRACKETS_NODE = -3;

    private static final int DONE = 0;
    private static final int BY_ZERO = 1;
    private static final int NO_VALUE = 2;

    private static final long MAX_COUNT = 9223372036854775807L;
    /** Stands for every count above MAX_COUNT; it is also how such a count is told. */
    private static final long MANY = -2;

    private final Tape tape = new Tape();
    private Book inUse = new Book();
    /** The next book is written here, so that a fault leaves the one in use alone. */
    private Book spare = new Book();
    private final Parser parser = new Parser(tape, spare);
    private final Sentence tokens = new Sentence();
    private final Reading reading = new Reading();
    private final Chart chart = new Chart(inUse, tokens);
    private final Finder finder = new Finder(chart, tokens, reading);
    private final Worker worker = new Worker(tokens, reading);

    public MixfixBench() {
    }

    public int feed(int a, int b, int c, int d, int e) {
        if (tape.length + 20 > MAX_BYTES) {
            return NONE;
        }
        tape.append(a);
        tape.append(b);
        tape.append(c);
        tape.append(d);
        tape.append(e);
        return tape.length;
    }

    public int end(int n) {
        if (n < 0 || n > tape.length) {
            return NONE;
        }
        tape.length = n;
        return n;
    }

    public int book() {
        boolean sound = parser.parse(spare);
        tape.length = 0;
        if (!sound) {
            return NONE;
        }
        Book told = spare;
        spare = inUse;
        inUse = told;
        tokens.count = 0;
        dropReading();
        return inUse.wordCount;
    }

    public int fault(int what) {
        if (what == 0) {
            return parser.fault;
        }
        return what == 1 ? parser.faultPlace : NONE;
    }

    public int about(int what) {
        switch (what) {
            case 0: return inUse.rankCount;
            case 1: return inUse.kindCount;
            case 2: return inUse.wordCount;
            case 3: return tokens.count;
            case 4: return reading.count;
            case 5: return tape.length;
            default: return NONE;
        }
    }

    public int word(int word, int what) {
        if (!inUse.hasWord(word)) {
            return NONE;
        }
        Word asked = inUse.words[word];
        switch (what) {
            case 0: return asked.rank;
            case 1: return asked.lean;
            case 2: return asked.kind;
            case 3: return asked.size;
            case 4: return asked.holes;
            case 5: return asked.ends();
            case 6: return asked.steps;
            default: return NONE;
        }
    }

    public int tighter(int a, int b) {
        if (!inUse.hasRank(a) || !inUse.hasRank(b)) {
            return NONE;
        }
        return inUse.isTighter(a, b) ? 1 : 0;
    }

    public int under(int a, int b) {
        if (!inUse.hasKind(a) || !inUse.hasKind(b)) {
            return NONE;
        }
        return inUse.isUnder(a, b) ? 1 : 0;
    }

    public int sentence() {
        boolean taken = tokens.readFrom(tape);
        tape.length = 0;
        if (!taken) {
            return NONE;
        }
        dropReading();
        return tokens.count;
    }

    public long count(int i, int j) {
        if (i < 0 || j > tokens.count || i >= j) {
            return 0;
        }
        chart.fill();
        return chart.readingsOf(i, j);
    }

    public int quarrel() {
        chart.fill();
        for (int length = 1; length <= tokens.count; length++) {
            for (int first = 0; first + length <= tokens.count; first++) {
                long readings = chart.readingsOf(first, first + length);
                if (readings > 1 || readings == MANY) {
                    return 100 * first + length;
                }
            }
        }
        return NONE;
    }

    public int read(long k) {
        if (k < 0 || tokens.count == 0) {
            return NONE;
        }
        chart.fill();
        long readings = chart.readingsOf(0, tokens.count);
        if (readings != MANY && k >= readings) {
            return NONE;
        }
        finder.find(k);
        worker.forget();
        return reading.count;
    }

    public int node(int n, int what) {
        if (n < 0 || n >= reading.count) {
            return NONE;
        }
        switch (what) {
            case 0: return reading.word[n];
            case 1: return reading.first[n];
            case 2: return reading.length[n];
            case 3: return reading.parent[n];
            case 4: return reading.hole[n];
            default: return NONE;
        }
    }

    public boolean bind(int word, int value) {
        if (!inUse.hasWord(word)) {
            return false;
        }
        Word named = inUse.words[word];
        if (named.steps != NONE || named.holes > 0) {
            return false;
        }
        named.bound = true;
        named.value = value;
        return true;
    }

    public int work() {
        return reading.count == 0 ? NONE : worker.run(inUse);
    }

    public int worked(int what) {
        if (what == 0) {
            return worker.result;
        }
        return what == 1 ? worker.endedAt : NONE;
    }

    public int sure() {
        for (int a = 0; a < inUse.wordCount; a++) {
            for (int b = a; b < inUse.wordCount; b++) {
                if (inUse.isAgainst(a, b)) {
                    return 100 * a + b;
                }
            }
        }
        return NONE;
    }

    /** What was counted, read and worked belongs to the book and the sentence that were there. */
    private void dropReading() {
        chart.startOver(inUse);
        reading.clear();
        worker.forget();
    }

    private static boolean hasBit(int bits, int n) {
        return (bits >> n & 1) == 1;
    }

    private static boolean isDigit(int c) {
        return c >= '0' && c <= '9';
    }

    private static boolean isBlank(int c) {
        return c == 32 || c == 10;
    }

    /** The sum of two counts, MANY if it is above MAX_COUNT. */
    private static long plus(long a, long b) {
        if (a == MANY || b == MANY) {
            return MANY;
        }
        long sum = a + b;
        return sum < 0 ? MANY : sum;
    }

    /** The product of two counts, MANY if it is above MAX_COUNT. */
    private static long times(long a, long b) {
        if (a == 0 || b == 0) {
            return 0;
        }
        if (a == MANY || b == MANY || a > MAX_COUNT / b) {
            return MANY;
        }
        return a * b;
    }

    /** The bytes that are fed. */
    private static final class Tape {
        private final byte[] bytes = new byte[MAX_BYTES];
        private int length = 0;

        void append(int number) {
            for (int shift = 24; shift >= 0 && length < MAX_BYTES; shift -= 8) {
                bytes[length] = (byte) (number >> shift);
                length++;
            }
        }

        /** The byte at this place, 0 to 255; NONE behind the last one. */
        int byteAt(int place) {
            return place >= 0 && place < length ? bytes[place] & 255 : NONE;
        }
    }

    /** The tokens of a book's text. */
    private static final class Lexer {
        // What a token is; a sign is its own byte, above all of these.
        private static final int END = 0;
        private static final int NO_TOKEN = 1;
        private static final int NAME = 2;
        private static final int KEYWORD = 3;
        private static final int NUMBER = 4;
        /** A number of one digit. */
        private static final int DIGIT = 5;
        private static final int PART = 6;

        private static final long RANK = 0x72616e6bL;
        private static final long TIGHTER = 0x74696768746572L;
        private static final long KIND = 0x6b696e64L;
        private static final long UNDER = 0x756e646572L;
        private static final long WORD = 0x776f7264L;
        private static final long LEFT_LEANING = 0x6c656674L;
        private static final long RIGHT_LEANING = 0x7269676874L;

        private final Tape tape;
        /** Where the next token is looked for. */
        private int at;
        private int count;
        private final int[] sorts = new int[MAX_BYTES + 1];
        private final int[] places = new int[MAX_BYTES + 1];
        /** Of a name, a keyword, a part its bytes; of a number its value. */
        private final long[] contents = new long[MAX_BYTES + 1];
        /** The token that the parser looks at. */
        private int current;

        Lexer(Tape tape) {
            this.tape = tape;
        }

        int sort() {
            return sorts[current];
        }

        int place() {
            return places[current];
        }

        long content() {
            return contents[current];
        }

        boolean isKeyword(long keyword) {
            return sort() == KEYWORD && content() == keyword;
        }

        /** Behind the last token, it stays there. */
        void advance() {
            if (current + 1 < count) {
                current++;
            }
        }

        /** Parts the tape up to its end, or up to where no token is: there a fault is, if not before. */
        void start() {
            at = 0;
            count = 0;
            current = 0;
            for (boolean more = true; more && count <= MAX_BYTES; count++) {
                while (at < tape.length && isBlank(tape.byteAt(at))) {
                    at++;
                }
                places[count] = at;
                contents[count] = 0;
                sorts[count] = takeToken(tape.byteAt(at));
                more = sorts[count] != END && sorts[count] != NO_TOKEN;
            }
        }

        /** The sort of the token that this byte begins. */
        private int takeToken(int c) {
            if (c == NONE) {
                return END;
            }
            if (isLetter(c)) {
                return takeName();
            }
            if (isDigit(c)) {
                return takeNumber();
            }
            return c == '"' ? takePart() : takeSign(c);
        }

        private int takeName() {
            long name = 0;
            while (at < tape.length && isLetterOrDigit(tape.byteAt(at))) {
                name = name << 8 | tape.byteAt(at);
                at++;
            }
            if (at - places[count] > MAX_TEXT) {
                return NO_TOKEN;
            }
            contents[count] = name;
            return isReserved(name) ? KEYWORD : NAME;
        }

        private int takeNumber() {
            long value = 0;
            while (at < tape.length && isDigit(tape.byteAt(at))) {
                value = value * 10 + tape.byteAt(at) - '0';
                at++;
            }
            int digits = at - places[count];
            if (digits > 9 || isLetter(tape.byteAt(at))) {
                return NO_TOKEN;
            }
            contents[count] = value;
            return digits == 1 ? DIGIT : NUMBER;
        }

        private int takePart() {
            // An empty part is of digits alone, too.
            boolean digitsAlone = true;
            long part = 0;
            at++;
            while (at < tape.length && isPartByte(tape.byteAt(at))) {
                digitsAlone = digitsAlone && isDigit(tape.byteAt(at));
                part = part << 8 | tape.byteAt(at);
                at++;
            }
            int length = at - places[count] - 1;
            if (tape.byteAt(at) != '"' || length > MAX_TEXT || digitsAlone) {
                return NO_TOKEN;
            }
            at++;
            contents[count] = part;
            return PART;
        }

        private int takeSign(int c) {
            at++;
            boolean touched = c == '_' && isLetterOrDigit(tape.byteAt(at));
            return isSign(c) && !touched ? c : NO_TOKEN;
        }

        private static boolean isReserved(long name) {
            return name == RANK || name == TIGHTER || name == KIND || name == UNDER || name == WORD
                || name == LEFT_LEANING || name == RIGHT_LEANING;
        }

        private static boolean isLetter(int c) {
            return c >= 'a' && c <= 'z';
        }

        private static boolean isLetterOrDigit(int c) {
            return isLetter(c) || isDigit(c);
        }

        private static boolean isPartByte(int c) {
            return c >= 33 && c <= 126 && c != '"' && c != '(' && c != ')';
        }

        private static boolean isSign(int c) {
            switch (c) {
                case ';': case ':': case '_': case '=': case '@': case '+':
                case '-': case '*': case '/': case '%': case '<':
                    return true;
                default:
                    return false;
            }
        }
    }

    /** Reads a book's text line by line and finds its first fault. */
    private static final class Parser {
        private static final int NOT_A_TOKEN = 1;
        private static final int MISPLACED = 2;
        private static final int WRONG_NAME = 3;
        private static final int RING = 4;
        private static final int WRONG_STEP = 5;

        private final Lexer lexer;
        private Book book;
        private int fault = 0;
        private int faultPlace = NONE;

        Parser(Tape tape, Book book) {
            lexer = new Lexer(tape);
            this.book = book;
        }

        /** Writes what the tape tells into this book; false if there is a fault. */
        boolean parse(Book target) {
            book = target;
            book.clear();
            fault = 0;
            faultPlace = NONE;
            lexer.start();
            for (int line = 0; line <= MAX_BYTES && fault == 0 && lexer.sort() != Lexer.END; line++) {
                if (lexer.isKeyword(Lexer.RANK)) {
                    parseRank();
                } else if (lexer.isKeyword(Lexer.TIGHTER)) {
                    parseTighter();
                } else if (lexer.isKeyword(Lexer.KIND)) {
                    parseKind();
                } else if (lexer.isKeyword(Lexer.WORD)) {
                    parseWord();
                } else {
                    refuse();
                }
            }
            if (fault != 0) {
                return false;
            }
            book.settleHoles();
            return true;
        }

        private void blame(int which, int where) {
            fault = which;
            faultPlace = where;
        }

        /** The token that is there can't stand there. */
        private void refuse() {
            blame(lexer.sort() == Lexer.NO_TOKEN ? NOT_A_TOKEN : MISPLACED, lexer.place());
        }

        private boolean pass(int sign) {
            if (lexer.sort() != sign) {
                refuse();
                return false;
            }
            lexer.advance();
            return true;
        }

        private void parseRank() {
            if (book.rankCount == MAX_RANKS) {
                refuse();
                return;
            }
            lexer.advance();
            if (lexer.sort() != Lexer.NAME) {
                refuse();
            } else if (book.rankNamed(lexer.content()) != NONE) {
                blame(WRONG_NAME, lexer.place());
            } else {
                book.addRank(lexer.content());
                lexer.advance();
                pass(';');
            }
        }

        private void parseTighter() {
            lexer.advance();
            int a = passRank();
            if (a == NONE) {
                return;
            }
            int place = lexer.place();
            int b = passRank();
            if (b == NONE) {
                return;
            }
            if (a == b || book.isTighter(b, a)) {
                blame(RING, place);
                return;
            }
            book.setTighter(a, b);
            pass(';');
        }

        private void parseKind() {
            if (book.kindCount == MAX_KINDS) {
                refuse();
                return;
            }
            lexer.advance();
            if (lexer.sort() != Lexer.NAME) {
                refuse();
                return;
            }
            if (book.kindNamed(lexer.content()) != NONE) {
                blame(WRONG_NAME, lexer.place());
                return;
            }
            long name = lexer.content();
            int above = 0;
            lexer.advance();
            if (lexer.isKeyword(Lexer.UNDER)) {
                lexer.advance();
                above = passKind();
            }
            if (above != NONE && pass(';')) {
                book.addKind(name, above);
            }
        }

        /** The rank of the name that must stand here; NONE if there is a fault. */
        private int passRank() {
            if (lexer.sort() != Lexer.NAME) {
                refuse();
                return NONE;
            }
            return passName(book.rankNamed(lexer.content()));
        }

        /** The kind of the name that must stand here; NONE if there is a fault. */
        private int passKind() {
            if (lexer.sort() != Lexer.NAME) {
                refuse();
                return NONE;
            }
            return passName(book.kindNamed(lexer.content()));
        }

        private int passName(int named) {
            if (named == NONE) {
                blame(WRONG_NAME, lexer.place());
            } else {
                lexer.advance();
            }
            return named;
        }

        private void parseWord() {
            if (book.wordCount == MAX_WORDS) {
                refuse();
                return;
            }
            lexer.advance();
            int rank = passRank();
            if (rank == NONE) {
                return;
            }
            Word word = book.words[book.wordCount];
            word.clear(rank);
            parseLean(word);
            word.kind = lexer.sort() == Lexer.NAME ? passKind() : 0;
            int colon = lexer.place();
            if (word.kind == NONE || !pass(':') || !parseElements(word)) {
                return;
            }
            if (word.lean != 0 && word.isClosed()) {
                blame(MISPLACED, colon);
            } else if (word.holes == word.size) {
                refuse();
            } else if (lexer.sort() == '=' ? parseSteps(word) : pass(';')) {
                book.wordCount++;
            }
        }

        private void parseLean(Word word) {
            if (lexer.isKeyword(Lexer.LEFT_LEANING)) {
                word.lean = LEFT;
                lexer.advance();
            } else if (lexer.isKeyword(Lexer.RIGHT_LEANING)) {
                word.lean = RIGHT;
                lexer.advance();
            }
        }

        /** Passes the elements up to the = or ; behind them; false if there is a fault. */
        private boolean parseElements(Word word) {
            for (int n = 0; n <= MAX_ELEMENTS; n++) {
                if (lexer.sort() == '=' || lexer.sort() == ';') {
                    return true;
                }
                boolean part = lexer.sort() == Lexer.PART && word.size < MAX_ELEMENTS;
                boolean hole = lexer.sort() == '_' && word.mayTakeHole();
                if (!part && !hole) {
                    break;
                }
                long text = lexer.content();
                lexer.advance();
                if (part) {
                    word.addPart(text);
                } else {
                    int kind = lexer.sort() == Lexer.NAME ? passKind() : 0;
                    if (kind == NONE) {
                        return false;
                    }
                    word.addHole(kind);
                }
            }
            refuse();
            return false;
        }

        /** Passes the = and what is behind it up to the end of the line; false if there is a fault. */
        private boolean parseSteps(Word word) {
            int pile = 0;
            word.steps = 0;
            lexer.advance();
            for (int n = 0; n < MAX_STEPS && lexer.sort() != ';'; n++) {
                pile = parseStep(word, pile);
                if (pile == NONE) {
                    return false;
                }
            }
            if (lexer.sort() != ';') {
                refuse();
            } else if (pile != 1) {
                blame(WRONG_STEP, lexer.place());
            } else {
                lexer.advance();
            }
            return fault == 0;
        }

        /** How many are on the pile behind this step; NONE if there is a fault. */
        private int parseStep(Word word, int pile) {
            int place = lexer.place();
            int sign = isNumber() ? Lexer.NUMBER : lexer.sort();
            if (sign == '@') {
                lexer.advance();
                if (lexer.sort() != Lexer.DIGIT) {
                    refuse();
                    return NONE;
                }
            } else if (sign != Lexer.NUMBER && !isOperation(sign)) {
                refuse();
                return NONE;
            }
            int value = (int) lexer.content();
            boolean missing = sign == '@' && (value < 1 || value > word.holes);
            boolean full = !isOperation(sign) && pile == MAX_PILE;
            boolean lacking = isOperation(sign) && pile < 2;
            if (missing || full || lacking) {
                blame(WRONG_STEP, place);
                return NONE;
            }
            word.addStep(sign, value);
            lexer.advance();
            return isOperation(sign) ? pile - 1 : pile + 1;
        }

        private boolean isNumber() {
            return lexer.sort() == Lexer.NUMBER || lexer.sort() == Lexer.DIGIT;
        }

        private static boolean isOperation(int sign) {
            return sign == '+' || sign == '-' || sign == '*' || sign == '/' || sign == '%' || sign == '<';
        }
    }

    /** A word of a book. */
    private static final class Word {
        private int rank;
        private int lean;
        private int kind;
        private int size;
        private int holes;
        /** NONE without =. */
        private int steps;
        private boolean bound;
        private int value;
        /** Of each element its part's text; 0 for a hole. */
        private final long[] parts = new long[MAX_ELEMENTS];
        /** Of each element that is a hole, which one it is. */
        private final int[] holeAt = new int[MAX_ELEMENTS];
        private final int[] holeKinds = new int[MAX_HOLES];
        /** Of each hole the words whose readings it takes, as bits. */
        private final int[] takenWords = new int[MAX_HOLES];
        /** Of each hole the kinds that it takes, as bits. */
        private final int[] takenKinds = new int[MAX_HOLES];
        private final int[] stepSigns = new int[MAX_STEPS];
        private final int[] stepValues = new int[MAX_STEPS];

        void clear(int itsRank) {
            rank = itsRank;
            lean = 0;
            kind = 0;
            size = 0;
            holes = 0;
            steps = NONE;
            bound = false;
            value = 0;
        }

        void addPart(long text) {
            if (size < MAX_ELEMENTS) {
                parts[size] = text;
                size++;
            }
        }

        boolean mayTakeHole() {
            return size < MAX_ELEMENTS && holes < MAX_HOLES && !isHole(size - 1);
        }

        void addHole(int itsKind) {
            if (size < MAX_ELEMENTS && holes < MAX_HOLES) {
                parts[size] = 0;
                holeAt[size] = holes;
                holeKinds[holes] = itsKind;
                size++;
                holes++;
            }
        }

        void addStep(int sign, int itsValue) {
            if (steps >= 0 && steps < MAX_STEPS) {
                stepSigns[steps] = sign;
                stepValues[steps] = itsValue;
                steps++;
            }
        }

        boolean isHole(int element) {
            return element >= 0 && element < size && parts[element] == 0;
        }

        /** 1 for a first end, and 2 for a last one. */
        int ends() {
            return (isHole(0) ? 1 : 0) + (isHole(size - 1) ? 2 : 0);
        }

        boolean isClosed() {
            return ends() == 0;
        }

        boolean hasPart(long text) {
            for (int e = 0; e < size; e++) {
                if (parts[e] == text) {
                    return true;
                }
            }
            return false;
        }
    }

    /** The ranks, kinds and words that a text tells. */
    private static final class Book {
        private static final long ALL = 0x616c6cL;

        private int rankCount;
        private int kindCount;
        private int wordCount;
        private final long[] rankNames = new long[MAX_RANKS];
        /** Of each rank those that it is tighter than, as bits. */
        private final int[] looser = new int[MAX_RANKS];
        private final long[] kindNames = new long[MAX_KINDS];
        /** Of each kind itself and all that it is under, as bits. */
        private final int[] above = new int[MAX_KINDS];
        private final Word[] words = new Word[MAX_WORDS];

        Book() {
            for (int w = 0; w < MAX_WORDS; w++) {
                words[w] = new Word();
            }
            clear();
        }

        void clear() {
            rankCount = 0;
            kindCount = 1;
            wordCount = 0;
            kindNames[0] = ALL;
            above[0] = 1;
        }

        boolean hasRank(int rank) {
            return rank >= 0 && rank < rankCount;
        }

        boolean hasKind(int kind) {
            return kind >= 0 && kind < kindCount;
        }

        boolean hasWord(int word) {
            return word >= 0 && word < wordCount;
        }

        int rankNamed(long name) {
            return indexOf(rankNames, rankCount, name);
        }

        int kindNamed(long name) {
            return indexOf(kindNames, kindCount, name);
        }

        private static int indexOf(long[] names, int count, long name) {
            for (int n = 0; n < count; n++) {
                if (names[n] == name) {
                    return n;
                }
            }
            return NONE;
        }

        void addRank(long name) {
            if (rankCount < MAX_RANKS) {
                rankNames[rankCount] = name;
                looser[rankCount] = 0;
                rankCount++;
            }
        }

        void addKind(long name, int upper) {
            if (kindCount < MAX_KINDS && hasKind(upper)) {
                kindNames[kindCount] = name;
                above[kindCount] = above[upper] | 1 << kindCount;
                kindCount++;
            }
        }

        /** All that is tighter than a becomes tighter, too, than b and all that b is tighter than. */
        void setTighter(int a, int b) {
            int gained = looser[b] | 1 << b;
            for (int rank = 0; rank < rankCount; rank++) {
                if (rank == a || isTighter(rank, a)) {
                    looser[rank] |= gained;
                }
            }
        }

        boolean isTighter(int a, int b) {
            return hasBit(looser[a], b);
        }

        boolean isUnder(int a, int b) {
            return hasBit(above[a], b);
        }

        /** The kind of a number. */
        int numberKind() {
            return kindCount > 1 ? 1 : 0;
        }

        /** The kinds that are this one or under it, as bits. */
        int kindsUnder(int upper) {
            int bits = 0;
            for (int kind = 0; kind < kindCount; kind++) {
                if (isUnder(kind, upper)) {
                    bits |= 1 << kind;
                }
            }
            return bits;
        }

        /** The words of these kinds, as bits. */
        int wordsOfKinds(int kinds) {
            int bits = 0;
            for (int w = 0; w < wordCount; w++) {
                if (hasBit(kinds, words[w].kind)) {
                    bits |= 1 << w;
                }
            }
            return bits;
        }

        /** Finds what each hole takes: only a whole book tells which ranks are tighter. */
        void settleHoles() {
            for (int w = 0; w < wordCount; w++) {
                Word word = words[w];
                for (int e = 0; e < word.size; e++) {
                    if (word.isHole(e)) {
                        int hole = word.holeAt[e];
                        int kinds = kindsUnder(word.holeKinds[hole]);
                        word.takenKinds[hole] = kinds;
                        word.takenWords[hole] = wordsOfKinds(kinds) & wordsFitting(word, e);
                    }
                }
            }
        }

        /** The words that this hole takes if their kind is right, as bits. */
        private int wordsFitting(Word word, int element) {
            boolean first = element == 0;
            boolean last = element == word.size - 1;
            boolean same = first && word.lean == LEFT || last && word.lean == RIGHT;
            int bits = 0;
            for (int w = 0; w < wordCount; w++) {
                Word inner = words[w];
                boolean fits = !first && !last || inner.isClosed() || isTighter(inner.rank, word.rank)
                    || same && inner.rank == word.rank;
                if (fits) {
                    bits |= 1 << w;
                }
            }
            return bits;
        }

        /** Whether these two words (or this one, a being b) keep the book from being sure. */
        boolean isAgainst(int a, int b) {
            Word one = words[a];
            Word other = words[b];
            if (a == b) {
                return hasPartTwice(one) || one.ends() == 3 && one.lean == 0;
            }
            if (shareAPart(one, other)) {
                return true;
            }
            if (one.isClosed() || other.isClosed()) {
                return false;
            }
            boolean alike = one.rank == other.rank && one.lean != 0 && one.lean == other.lean;
            return !alike && !isTighter(one.rank, other.rank) && !isTighter(other.rank, one.rank);
        }

        private static boolean hasPartTwice(Word word) {
            for (int e = 0; e < word.size; e++) {
                for (int later = e + 1; later < word.size; later++) {
                    if (!word.isHole(e) && word.parts[e] == word.parts[later]) {
                        return true;
                    }
                }
            }
            return false;
        }

        private static boolean shareAPart(Word one, Word other) {
            for (int e = 0; e < one.size; e++) {
                if (!one.isHole(e) && other.hasPart(one.parts[e])) {
                    return true;
                }
            }
            return false;
        }
    }

    /** The tokens that are to be read. */
    private static final class Sentence {
        private int count = 0;
        private final long[] texts = new long[MAX_TOKENS];
        /** A sentence that is not taken must leave the old one alone: it is written here first. */
        private final long[] draft = new long[MAX_TOKENS];

        /** False, the sentence staying as it is, if the tape holds none. */
        boolean readFrom(Tape tape) {
            int found = 0;
            // How many bytes the token has that the next byte may belong to, 0 if there is none.
            int size = 0;
            for (int at = 0; at < tape.length; at++) {
                int c = tape.byteAt(at);
                boolean bracket = c == '(' || c == ')';
                if (isBlank(c)) {
                    size = 0;
                } else if (c < 33 || c > 126) {
                    return false;
                } else if (size > 0 && !bracket) {
                    if (size == MAX_TEXT) {
                        return false;
                    }
                    draft[found - 1] = draft[found - 1] << 8 | c;
                    size++;
                } else {
                    if (found == MAX_TOKENS) {
                        return false;
                    }
                    draft[found] = c;
                    found++;
                    size = bracket ? 0 : 1;
                }
            }
            System.arraycopy(draft, 0, texts, 0, found);
            count = found;
            return true;
        }

        boolean isNumber(int token) {
            return numberAt(token) != NONE;
        }

        /** The value of a token of digits alone; NONE of another one. */
        int numberAt(int token) {
            int value = 0;
            for (int shift = 56; shift >= 0; shift -= 8) {
                int c = (int) (texts[token] >> shift & 255);
                if (c != 0) {
                    if (c < '0' || c > '9') {
                        return NONE;
                    }
                    value = value * 10 + c - '0';
                }
            }
            return value;
        }

        /** Whether something stands between brackets at the two ends of this stretch. */
        boolean isBracketed(int first, int end) {
            return end - first >= 3 && texts[first] == '(' && texts[end - 1] == ')';
        }
    }

    /** How many readings each stretch of the sentence has; it must be filled before it is asked. */
    private static final class Chart {
        private Book book;
        private final Sentence sentence;
        private boolean filled = false;
        /** Of each stretch the readings that are numbers or brackets, by kind. */
        private final long[] ofKind = new long[MAX_ROWS * MAX_KINDS];
        /** Of each stretch the readings that are a word, by word. */
        private final long[] ofWord = new long[MAX_ROWS * MAX_WORDS];
        /** Of each stretch all readings. */
        private final long[] ofAny = new long[MAX_ROWS];
        /** Of each stretch the readings that a hole takes, by word and hole. */
        private final long[] ofHole = new long[MAX_ROWS * MAX_WORDS * MAX_HOLES];
        /** By word, element and place: how often the word's elements from this one on match the
            tokens from this place up to the end that is looked at. */
        private final long[] tails = new long[MAX_WORDS * MAX_ELEMENTS * MAX_TOKENS];

        Chart(Book book, Sentence sentence) {
            this.book = book;
            this.sentence = sentence;
        }

        void startOver(Book newBook) {
            book = newBook;
            filled = false;
        }

        long readingsOf(int first, int end) {
            return ofAny[rowOf(first, end)];
        }

        private static int rowOf(int first, int end) {
            return end * (end - 1) / 2 + first;
        }

        private static int tailOf(int word, int element, int place) {
            return (word * MAX_ELEMENTS + element) * MAX_TOKENS + place;
        }

        long wordReadings(int first, int end, int word) {
            return ofWord[rowOf(first, end) * MAX_WORDS + word];
        }

        long holeReadings(int first, int end, int word, int hole) {
            return ofHole[(rowOf(first, end) * MAX_WORDS + word) * MAX_HOLES + hole];
        }

        /** The readings that are a number or brackets of these kinds. */
        long plainReadings(int first, int end, int kinds) {
            return sumOfKinds(rowOf(first, end), kinds);
        }

        private long sumOfKinds(int row, int kinds) {
            long sum = 0;
            for (int kind = 0; kind < book.kindCount; kind++) {
                if (hasBit(kinds, kind)) {
                    sum = plus(sum, ofKind[row * MAX_KINDS + kind]);
                }
            }
            return sum;
        }

        private long sumOfWords(int row, int words) {
            long sum = 0;
            for (int w = 0; w < book.wordCount; w++) {
                if (hasBit(words, w)) {
                    sum = plus(sum, ofWord[row * MAX_WORDS + w]);
                }
            }
            return sum;
        }

        /** By end, then from the last first on: what a stretch needs is counted before it. */
        void fill() {
            if (filled) {
                return;
            }
            filled = true;
            for (int end = 1; end <= sentence.count; end++) {
                for (int first = end - 1; first >= 0; first--) {
                    fillStretch(first, end);
                }
            }
        }

        private void fillStretch(int first, int end) {
            int row = rowOf(first, end);
            for (int w = 0; w < book.wordCount; w++) {
                long ways = ways(w, 0, first, end);
                tails[tailOf(w, 0, first)] = ways;
                ofWord[row * MAX_WORDS + w] = ways;
            }
            fillKinds(first, end);
            ofAny[row] = plus(sumOfKinds(row, -1), sumOfWords(row, -1));
            for (int w = 0; w < book.wordCount; w++) {
                fillHoles(row, w);
                fillTails(w, first, end);
            }
        }

        private void fillKinds(int first, int end) {
            int row = rowOf(first, end);
            for (int kind = 0; kind < book.kindCount; kind++) {
                ofKind[row * MAX_KINDS + kind] = 0;
            }
            if (end == first + 1) {
                if (sentence.isNumber(first)) {
                    ofKind[row * MAX_KINDS + book.numberKind()] = 1;
                }
            } else if (sentence.isBracketed(first, end)) {
                int inner = rowOf(first + 1, end - 1);
                for (int kind = 0; kind < book.kindCount; kind++) {
                    int bit = 1 << kind;
                    ofKind[row * MAX_KINDS + kind] =
                        plus(sumOfKinds(inner, bit), sumOfWords(inner, book.wordsOfKinds(bit)));
                }
            }
        }

        private void fillHoles(int row, int w) {
            Word word = book.words[w];
            for (int hole = 0; hole < word.holes; hole++) {
                long taken = 0;
                if (ofAny[row] != 0) {
                    taken = plus(sumOfKinds(row, word.takenKinds[hole]), sumOfWords(row, word.takenWords[hole]));
                }
                ofHole[(row * MAX_WORDS + w) * MAX_HOLES + hole] = taken;
            }
        }

        private void fillTails(int w, int place, int end) {
            for (int element = 1; element < book.words[w].size; element++) {
                tails[tailOf(w, element, place)] = ways(w, element, place, end);
            }
        }

        /** Makes the tails of this word ready for a stretch, all of which has been counted. */
        void prepareTails(int w, int first, int end) {
            for (int place = end - 1; place > first; place--) {
                for (int element = 1; element < book.words[w].size; element++) {
                    tails[tailOf(w, element, place)] = ways(w, element, place, end);
                }
            }
        }

        /** How often the elements from this one on match the tokens from first up to end. */
        private long ways(int w, int element, int first, int end) {
            Word word = book.words[w];
            if (!word.isHole(element)) {
                boolean same = word.parts[element] == sentence.texts[first];
                return same ? tail(w, element + 1, first + 1, end) : 0;
            }
            int hole = word.holeAt[element];
            long sum = 0;
            for (int middle = first + 1; middle <= end; middle++) {
                long rest = tail(w, element + 1, middle, end);
                if (rest != 0) {
                    sum = plus(sum, times(holeReadings(first, middle, w, hole), rest));
                }
            }
            return sum;
        }

        /** What tails tells, and what there is when no element or no token is left. */
        long tail(int w, int element, int place, int end) {
            boolean none = element == book.words[w].size;
            if (place == end) {
                return none ? 1 : 0;
            }
            return none ? 0 : tails[tailOf(w, element, place)];
        }
    }

    /** The reading that is taken, its nodes in order. */
    private static final class Reading {
        private int count = 0;
        private final int[] word = new int[MAX_TOKENS];
        private final int[] first = new int[MAX_TOKENS];
        private final int[] length = new int[MAX_TOKENS];
        private final int[] parent = new int[MAX_TOKENS];
        private final int[] hole = new int[MAX_TOKENS];
        /** Of each node those in its holes. */
        private final int[] children = new int[MAX_TOKENS * MAX_HOLES];

        void clear() {
            count = 0;
        }

        /** The number of the new node. */
        int add(int itsWord, int itsFirst, int itsLength, int itsParent, int itsHole) {
            if (count >= MAX_TOKENS) {
                return NONE;
            }
            int node = count;
            word[node] = itsWord;
            first[node] = itsFirst;
            length[node] = itsLength;
            parent[node] = itsParent;
            hole[node] = itsHole;
            if (itsParent >= 0 && itsHole >= 0) {
                children[itsParent * MAX_HOLES + itsHole] = node;
            }
            count++;
            return node;
        }

        int childOf(int node, int itsHole) {
            return children[node * MAX_HOLES + itsHole];
        }
    }

    /** Builds the reading that has a given number. */
    private static final class Finder {
        private final Chart chart;
        private final Sentence sentence;
        private final Reading reading;
        // The stretches that have no node yet, the one that is next last. As none overlaps
        // another one, there are never more of them than tokens.
        private int waiting = 0;
        private final int[] firsts = new int[MAX_TOKENS];
        private final int[] ends = new int[MAX_TOKENS];
        private final int[] parents = new int[MAX_TOKENS];
        private final int[] holes = new int[MAX_TOKENS];
        /** The words and the kinds that may stand there, as bits. */
        private final int[] words = new int[MAX_TOKENS];
        private final int[] kinds = new int[MAX_TOKENS];
        /** Which of the readings that may stand there it shall be. */
        private final long[] numbers = new long[MAX_TOKENS];
        /** Where the holes of the word that is split begin and end. */
        private final int[] holeFirsts = new int[MAX_HOLES];
        private final int[] holeEnds = new int[MAX_HOLES];

        Finder(Chart chart, Sentence sentence, Reading reading) {
            this.chart = chart;
            this.sentence = sentence;
            this.reading = reading;
        }

        /** The sentence must have a reading k. */
        void find(long k) {
            reading.clear();
            waiting = 0;
            await(0, sentence.count, NONE, NONE);
            demand(-1, -1, k);
            for (int node = 0; node < MAX_TOKENS && waiting > 0; node++) {
                makeNode();
            }
        }

        private void await(int first, int end, int parent, int hole) {
            if (waiting < MAX_TOKENS) {
                firsts[waiting] = first;
                ends[waiting] = end;
                parents[waiting] = parent;
                holes[waiting] = hole;
                waiting++;
            }
        }

        /** Tells of the latest stretch that waits what may stand there. */
        private void demand(int itsWords, int itsKinds, long number) {
            if (waiting > 0) {
                words[waiting - 1] = itsWords;
                kinds[waiting - 1] = itsKinds;
                numbers[waiting - 1] = number;
            }
        }

        /** Makes the node of the latest stretch that waits; what is in it waits then. */
        private void makeNode() {
            waiting--;
            int top = waiting;
            int first = firsts[top];
            int length = ends[top] - first;
            int which = chooseWord(top);
            if (which == NONE) {
                which = length == 1 ? NUMBER_NODE : BRACKETS_NODE;
            }
            int node = reading.add(which, first, length, parents[top], holes[top]);
            if (which >= 0) {
                chart.prepareTails(which, first, first + length);
                fillWord(which, node, splitWord(which, first, first + length, numbers[top]));
            } else if (which == BRACKETS_NODE) {
                int inner = kinds[top];
                long number = numbers[top];
                await(first + 1, first + length - 1, node, 0);
                demand(chart.book.wordsOfKinds(inner), inner, number);
            }
        }

        /** The word of the reading that shall stand there, its number being lowered to the one
            among this word's; NONE if the reading is a number or brackets. */
        private int chooseWord(int top) {
            int first = firsts[top];
            int end = ends[top];
            long readings = chart.plainReadings(first, end, kinds[top]);
            int chosen = NONE;
            for (int w = 0; w < chart.book.wordCount && readings != MANY && numbers[top] >= readings; w++) {
                if (hasBit(words[top], w)) {
                    numbers[top] -= readings;
                    readings = chart.wordReadings(first, end, w);
                    chosen = w;
                }
            }
            return chosen;
        }

        /** Finds where the holes end, the word's tails being ready; the number among the readings
            whose holes end there. */
        private long splitWord(int w, int first, int end, long number) {
            Word word = chart.book.words[w];
            long left = number;
            long before = 1;
            int place = first;
            for (int e = 0; e < word.size; e++) {
                if (!word.isHole(e)) {
                    place++;
                    continue;
                }
                int hole = word.holeAt[e];
                for (int middle = place + 1; middle <= end; middle++) {
                    long ways = times(before, chart.holeReadings(place, middle, w, hole));
                    long readings = times(ways, chart.tail(w, e + 1, middle, end));
                    if (readings == MANY || left < readings) {
                        holeFirsts[hole] = place;
                        holeEnds[hole] = middle;
                        before = ways;
                        break;
                    }
                    left -= readings;
                }
                place = holeEnds[hole];
            }
            return left;
        }

        /** Lets the holes wait, the last one first; the first hole's reading weighs most. */
        private void fillWord(int w, int node, long number) {
            Word word = chart.book.words[w];
            long left = number;
            for (int hole = word.holes - 1; hole >= 0; hole--) {
                int first = holeFirsts[hole];
                int end = holeEnds[hole];
                long readings = chart.holeReadings(first, end, w, hole);
                // If there are too many to count, what is left is a number of this hole alone.
                boolean wraps = readings > 0;
                await(first, end, node, hole);
                demand(word.takenWords[hole], word.takenKinds[hole], wraps ? left % readings : left);
                left = wraps ? left / readings : 0;
            }
        }
    }

    /** Works the reading out. */
    private static final class Worker {
        private final Sentence sentence;
        private final Reading reading;
        private int result = 0;
        private int endedAt = NONE;
        /** Of each node that is worked its value. */
        private final int[] values = new int[MAX_TOKENS];
        private final int[] pile = new int[MAX_PILE];
        private int height = 0;

        Worker(Sentence sentence, Reading reading) {
            this.sentence = sentence;
            this.reading = reading;
        }

        void forget() {
            result = 0;
            endedAt = NONE;
        }

        /** As nodes are numbered from the outermost in, a node's holes are all worked when the
            next number is not inside it: then its steps are due, and its outer nodes' up to
            the one that the next number is in. */
        int run(Book book) {
            forget();
            for (int next = 1; next <= reading.count; next++) {
                int outer = next < reading.count ? reading.parent[next] : NONE;
                int node = next - 1;
                for (int level = 0; level < MAX_TOKENS && node > outer; level++) {
                    int how = workNode(book, node);
                    if (how != DONE) {
                        endedAt = node;
                        return how;
                    }
                    node = reading.parent[node];
                }
            }
            result = values[0];
            return DONE;
        }

        private int workNode(Book book, int node) {
            int w = reading.word[node];
            if (w == NUMBER_NODE) {
                values[node] = sentence.numberAt(reading.first[node]);
                return DONE;
            }
            if (w == BRACKETS_NODE) {
                values[node] = values[reading.childOf(node, 0)];
                return DONE;
            }
            Word word = book.words[w];
            if (word.steps != NONE) {
                return runSteps(word, node) ? DONE : BY_ZERO;
            }
            values[node] = word.value;
            return word.bound ? DONE : NO_VALUE;
        }

        /** False if a step divides by 0. */
        private boolean runSteps(Word word, int node) {
            height = 0;
            for (int step = 0; step < word.steps; step++) {
                int sign = word.stepSigns[step];
                int value = word.stepValues[step];
                if (sign == Lexer.NUMBER) {
                    push(value);
                } else if (sign == '@') {
                    push(values[reading.childOf(node, value - 1)]);
                } else if (!operate(sign)) {
                    return false;
                }
            }
            values[node] = pile[0];
            return true;
        }

        private void push(int value) {
            if (height < MAX_PILE) {
                pile[height] = value;
                height++;
            }
        }

        private boolean operate(int sign) {
            if (height < 2) {
                return false;
            }
            int right = pile[height - 1];
            int left = pile[height - 2];
            if (right == 0 && (sign == '/' || sign == '%')) {
                return false;
            }
            height--;
            pile[height - 1] = outcome(sign, left, right);
            return true;
        }

        private static int outcome(int sign, int left, int right) {
            switch (sign) {
                case '+': return left + right;
                case '-': return left - right;
                case '*': return left * right;
                case '/': return right == 0 ? 0 : left / right;
                case '%': return right == 0 ? 0 : left % right;
                default: return left < right ? 1 : 0;
            }
        }
    }
}
