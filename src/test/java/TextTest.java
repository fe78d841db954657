/** Promises 23 and 24: the tape, and clauses from texts. */
public final class TextTest {
    public static void main(String[] args) {
        promise23Feed();
        promise24Text();
        promise24Order();
        promise24Numbers();
        promise24Faults();
        promise24Room();
        promise24ManyWords();
        Check.end();
    }

    private static int told(ClauseBook book, String text) {
        for (int i = 0; i < text.length(); i++) book.feed(1, text.charAt(i) << 24);
        return book.text();
    }

    private static void promise23Feed() {
        ClauseBook book = new ClauseBook();
        Check.due("n", book.feed(0, 0), ClauseBook.BAD);
        Check.due("n", book.feed(5, 0), ClauseBook.BAD);
        Check.due("n", book.feed(-1, 0), ClauseBook.BAD);
        Check.due("the highest first", book.feed(2, 'o' << 24 | 'n' << 16 | 'x' << 8 | 'x'), 2);
        Check.due("one more", book.feed(1, 'e' << 24 | 'z'), 3);
        Check.due("one", book.text(), 0);
        Check.due("given", book.feed(4, 'g' << 24 | 'i' << 16 | 'v' << 8 | 'e'), 4);
        Check.due("given one", book.feed(4, 'n' << 24 | ' ' << 16 | 'o' << 8 | 'n'), 8);
        Check.due("given one", book.feed(3, 'e' << 24), 11);
        Check.due("the last two are 0", book.text(), -109);
        for (int i = 1; i <= 29; i++) Check.due("feed", book.feed(4, 0x20202020), 4 * i);
        Check.due("feed", book.feed(3, 0x20202020), 119);
        Check.due("two more", book.feed(2, 0x20202020), ClauseBook.FULL);
        Check.due("full, bad goes first", book.feed(5, 0), ClauseBook.BAD);
        Check.due("one more", book.feed(1, 0x20202020), 120);
        Check.due("full", book.feed(1, 0), ClauseBook.FULL);
        Check.due("blanks alone", book.text(), -220);
        Check.due("empty then", book.feed(1, 0), 1);
    }

    private static void promise24Text() {
        ClauseBook book = new ClauseBook();
        String[] texts = {"nothing", "one", "given one", "scaled -9 one", "priced one", "both one nothing", "better one one", "worse one one",
            "until 6 one", "then one one", "late one", "free one", "where -99 one one"};
        int[] names = {0, 0, 1, 1, 1, 2, 2, 2, 1, 2, 1, 1, 2};
        for (int kind = 0; kind <= 12; kind++) {
            Check.due(texts[kind], told(book, texts[kind]), names[kind]);
            Check.due("its kind", book.clauseOf(names[kind], 0), kind);
            Check.due("its n", book.clauseOf(names[kind], 1), kind == 3 ? -9 : kind == 8 ? 6 : kind == 12 ? -99 : 0);
            Check.due("its c", book.clauseOf(names[kind], 2), names[kind] > 0 ? 0 : ClauseBook.NONE);
            Check.due("its d", book.clauseOf(names[kind], 3), names[kind] > 1 ? 1 : ClauseBook.NONE);
            Check.due("how many", book.count(0), names[kind] + 1);
            while (book.count(0) > 0) book.drop();
        }
        Check.due("blanks all round", told(book, "   both   one  nothing  "), 2);
        Check.due("behind what there is", told(book, "given one"), 4);
        Check.due("c is a new one", book.clauseOf(4, 2), 3);
    }

    private static void promise24Order() {
        ClauseBook book = new ClauseBook();
        Check.due("text", told(book, "both better one late nothing where 5 priced one given nothing"), 9);
        int[] kinds = {1, 0, 10, 6, 1, 4, 0, 2, 12, 5};
        int[] c = {-1, -1, 1, 0, -1, 4, -1, 6, 5, 3};
        int[] d = {-1, -1, -1, 2, -1, -1, -1, -1, 7, 8};
        for (int x = 0; x < 10; x++) {
            Check.due("kind of " + x, book.clauseOf(x, 0), kinds[x]);
            Check.due("c of " + x, book.clauseOf(x, 2), c[x]);
            Check.due("d of " + x, book.clauseOf(x, 3), d[x]);
        }
        Check.due("n", book.clauseOf(8, 1), 5);
    }

    private static void promise24Numbers() {
        ClauseBook book = new ClauseBook();
        Check.due("no blanks", told(book, "scaled3one"), 1);
        Check.due("no blanks, less than 0", told(book, "where-7scaled-0one one"), 5);
        Check.due("n", book.clauseOf(5, 1), -7);
        Check.due("many 0s ahead", told(book, "until 0000000000000000000000004one"), 7);
        Check.due("n", book.clauseOf(7, 1), 4);
        book.image();
        Check.due("9", told(book, "scaled 9 one"), 9);
        Check.due("10", told(book, "scaled 10 one"), -107);
        Check.due("-10", told(book, "scaled -10 one"), -107);
        Check.due("7", told(book, "until 7 one"), -106);
        Check.due("-1", told(book, "until -1 one"), -106);
        Check.due("99", told(book, "where 99 one one"), 12);
        Check.due("100", told(book, "where 100 one one"), -106);
        Check.due("-100", told(book, "where -100 one one"), -106);
        Check.due("as much as 2 to the 32nd and 3", told(book, "scaled 4294967299 one"), -107);
        Check.due("as much as 2 to the 64th and 3", told(book, "scaled 18446744073709551619 one"), -107);
        Check.due("- apart", told(book, "scaled - 3 one"), -107);
        Check.due("two of them", told(book, "scaled --3 one"), -107);
        Check.due("- alone, the end", told(book, "scaled -"), -107);
        Check.due("+", told(book, "scaled +3 one"), -107);
        Check.due("none", told(book, "scaled one"), -107);
        Check.due("where none is due", told(book, "given 3 one"), -106);
        Check.due("two numbers", told(book, "scaled 3 4 one"), -109);
        Check.due("two numbers, no blank", told(book, "scaled 3-4 one"), -108);
        Check.due("the end right behind it", told(book, "scaled 3"), -108);
        Check.due("how many", book.count(0), 13);
        Check.due("what stood on the tape before is gone", told(book, "until 22222"), -106);
        Check.due("what stood on the tape before is gone", told(book, "until 2"), -107);
    }

    private static void promise24Faults() {
        ClauseBook book = new ClauseBook();
        String[] texts = {"", "  ", "given", "given ", "both one", "both one ", "scaled", "scaled 3", "scaled 3 ", "until 3 given"};
        for (String text : texts) Check.due("'" + text + "' ends too early", told(book, text), -100 - text.length());
        Check.due("another word", told(book, "given two"), -106);
        Check.due("another word of three", told(book, "given ane"), -106);
        Check.due("another word of three", told(book, "given ond"), -106);
        Check.due("two words as one", told(book, "givenone"), -100);
        Check.due("part of a word", told(book, "given on"), -106);
        Check.due("more than a word", told(book, "  ones"), -102);
        Check.due("great letters", told(book, "ONE"), -100);
        Check.due("a great letter within", told(book, "oNe"), -100);
        Check.due("another byte", told(book, "given\tone"), -105);
        Check.due("another byte behind", told(book, "one\n"), -103);
        Check.due("byte 255", told(book, "one \u00ff"), -104);
        Check.due("byte 0", told(book, "\0one"), -100);
        Check.due("a word behind", told(book, "one one"), -104);
        Check.due("another word behind", told(book, "one xx"), -104);
        Check.due("a number behind", told(book, "one3"), -103);
        Check.due("the first of two", told(book, "both xx yy"), -105);
        Check.due("- behind a word", told(book, "given -one"), -106);
        Check.due("nothing came", book.count(0), 0);
        Check.due("the tape is empty", book.feed(1, 0), 1);
    }

    private static void promise24Room() {
        ClauseBook book = new ClauseBook();
        for (int i = 0; i < 21; i++) book.clause(1, 0, 0, 0);
        Check.due("room for three", told(book, "both one one"), 23);
        for (int i = 0; i < 3; i++) book.drop();
        Check.due("the second both needs five", told(book, "both one both one one"), -109);
        Check.due("the first given needs four", told(book, "both given one one"), -105);
        Check.due("given given given one", told(book, "given given given one"), -112);
        Check.due("a fault ahead of it", told(book, "both xx both one one"), -105);
        Check.due("the number of it is not read", told(book, "both one scaled 77 one"), -109);
        Check.due("nothing came", book.count(0), 21);
        for (int i = 0; i < 3; i++) book.clause(1, 0, 0, 0);
        Check.due("no room at all", told(book, " one"), -101);
        Check.due("no room, but nothing to be told", told(book, " "), -101);
        Check.due("empty", told(book, ""), -100);
    }

    private static void promise24ManyWords() {
        ClauseBook book = new ClauseBook();
        StringBuilder text = new StringBuilder();
        for (int i = 0; i < 23; i++) text.append("late ");
        Check.due("24 deep", told(book, text + "one"), 23);
        Check.due("deep", book.clauseOf(23, 6), 24);
        ClauseBook other = new ClauseBook();
        Check.due("25 deep", told(other, text + "x"), -215);
        text.setLength(0);
        for (int i = 0; i < 11; i++) text.append("both ");
        for (int i = 0; i < 12; i++) text.append("one ");
        Check.due("23 of them", told(other, text.toString()), 22);
    }
}
