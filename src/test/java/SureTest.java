/** Promise 18: sure. */
public final class SureTest {
    private static void due(String book, int want) {
        MixfixBench x = new MixfixBench();
        Check.due("book: " + book, Check.book(x, book) == -1, false);
        Check.due("sure() of " + book, x.sure(), want);
    }

    public static void main(String[] args) {
        String ranks = "rank r; rank s; rank t; rank u; tighter s r; tighter u s; ";
        due("", -1);
        due(ranks, -1);
        due(ranks + "word r: \"a\";", -1);
        due(ranks + "word r: \"a\"; word r: \"b\"; word t: \"c\" \"d\";", -1);
        parts(ranks);
        ends(ranks);
        first(ranks);
        Check.finish("SureTest");
    }

    private static void parts(String ranks) {
        due(ranks + "word r: \"a\"; word r: \"a\";", 1);
        due(ranks + "word r: \"a\" \"a\";", 0);
        due(ranks + "word r: \"a\" _ \"b\" _ \"a\";", 0);
        due(ranks + "word r: \"a\" _ \"b\" _ \"c\";", -1);
        due(ranks + "word r: \"a\" \"b\"; word t: \"c\" \"b\";", 1);
        due(ranks + "word r: \"a\" \"b\"; word t: \"c\" \"ab\";", -1);
        due(ranks + "word r: \"a\" _ \"b\"; word s: \"c\" _ \"d\"; word s: \"d\";", 102);
    }

    private static void ends(String ranks) {
        due(ranks + "word r: _ \"a\" _;", 0);
        due(ranks + "word r left: _ \"a\" _;", -1);
        due(ranks + "word r right: _ \"a\" _;", -1);
        due(ranks + "word r: _ \"a\";", -1);
        due(ranks + "word r: \"a\" _;", -1);
        due(ranks + "word r: \"a\" _; word r: \"b\" _;", 1);
        due(ranks + "word r right: \"a\" _; word r right: \"b\" _;", -1);
        due(ranks + "word r left: _ \"a\"; word r left: \"b\" _;", -1);
        due(ranks + "word r left: _ \"a\"; word r right: \"b\" _;", 1);
        due(ranks + "word r left: _ \"a\"; word r: \"b\" _;", 1);
        due(ranks + "word r: _ \"a\"; word r left: \"b\" _;", 1);
        due(ranks + "word r: \"a\" _; word s: \"b\" _;", -1);
        due(ranks + "word s: \"a\" _; word r: \"b\" _;", -1);
        due(ranks + "word r: \"a\" _; word t: \"b\" _;", 1);
        due(ranks + "word r left: \"a\" _; word t left: \"b\" _;", 1);
        due(ranks + "word u: \"a\" _; word r: \"b\" _;", -1);
        due(ranks + "word t: \"a\" _; word r: \"b\";", -1);
        due(ranks + "word t: \"a\"; word r: \"b\" _;", -1);
    }

    private static void first(String ranks) {
        due(ranks + "word r: \"a\"; word r: _ \"b\" _; word r: \"a\";", 2);
        due(ranks + "word r: \"a\"; word r: _ \"b\" _; word r: \"b\";", 101);
        due(ranks + "word r: \"a\"; word t: _ \"b\"; word s: _ \"c\"; word r: \"c\"; word r: \"b\";", 102);
        StringBuilder book = new StringBuilder(ranks);
        for (int w = 0; w < 29; w++) {
            book.append("word r: \"").append((char) ('a' + w)).append("\";");
        }
        due(book + "word r: \"z\";", 2529);
        due(book + "word r: \"Z\" \"Z\";", 2929);
        due(book + "word r: \"Z\";", -1);
        due(book + "word r: \"a\";", 29);
    }
}
