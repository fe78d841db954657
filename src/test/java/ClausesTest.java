/** Promises 7 to 10: clauses come, tell of themselves, go, name others. */
public final class ClausesTest {
    private static final int[] NAMES = {0, 0, 1, 1, 1, 2, 2, 2, 1, 2, 1, 1, 2};

    public static void main(String[] args) {
        promise7Clause();
        promise7WrongNumbers();
        promise8ClauseOf();
        promise8Ends();
        promise9Drop();
        promise10Swap();
        Check.end();
    }

    private static void promise7Clause() {
        ClauseBook book = new ClauseBook();
        for (int kind = 2; kind <= 12; kind++) Check.due("names none that there is", book.clause(kind, 0, 0, 0), ClauseBook.BAD);
        for (int kind = 0; kind <= 12; kind++) Check.due("one more", book.clause(kind, 0, 0, 0), kind);
        while (book.count(0) < 24) book.clause(1, 0, 0, 0);
        Check.due("the 25th", book.clause(1, 0, 0, 0), ClauseBook.FULL);
        Check.due("the 25th, bad too", book.clause(13, 0, 0, 0), ClauseBook.BAD);
        Check.due("the 25th, names itself", book.clause(2, 0, 24, 0), ClauseBook.BAD);
        Check.due("nothing changed", book.count(0), 24);
    }

    private static void promise7WrongNumbers() {
        ClauseBook book = new ClauseBook();
        book.clause(0, 0, 0, 0);
        book.clause(1, 0, 0, 0);
        Check.due("kind", book.clause(-1, 0, 0, 0), ClauseBook.BAD);
        Check.due("kind", book.clause(13, 0, 0, 0), ClauseBook.BAD);
        int[] least = new int[13];
        int[] most = new int[13];
        least[3] = -9; most[3] = 9; most[8] = 6; least[12] = -99; most[12] = 99;
        for (int kind = 0; kind <= 12; kind++) {
            Check.due("n too small, kind " + kind, book.clause(kind, least[kind] - 1, 0, 0), ClauseBook.BAD);
            Check.due("n too great, kind " + kind, book.clause(kind, most[kind] + 1, 0, 0), ClauseBook.BAD);
            Check.due("n least, kind " + kind, book.clause(kind, least[kind], 0, 0), 2);
            Check.due("it tells n", book.clauseOf(2, 1), least[kind]);
            book.drop();
            Check.due("n most, kind " + kind, book.clause(kind, most[kind], 0, 0), 2);
            Check.due("it tells n", book.clauseOf(2, 1), most[kind]);
            book.drop();
            Check.due("c of none, kind " + kind, book.clause(kind, 0, -1, 0), ClauseBook.BAD);
            Check.due("c itself, kind " + kind, book.clause(kind, 0, 2, 0), ClauseBook.BAD);
            Check.due("d of none, kind " + kind, book.clause(kind, 0, 0, -1), ClauseBook.BAD);
            Check.due("d itself, kind " + kind, book.clause(kind, 0, 0, 2), ClauseBook.BAD);
            Check.due("c, kind " + kind, book.clause(kind, 0, 1, 0), NAMES[kind] > 0 ? 2 : ClauseBook.BAD);
            if (NAMES[kind] > 0) book.drop();
            Check.due("d, kind " + kind, book.clause(kind, 0, 0, 1), NAMES[kind] > 1 ? 2 : ClauseBook.BAD);
            if (NAMES[kind] > 1) book.drop();
        }
        Check.due("nothing changed", book.count(0), 2);
    }

    private static void asked(ClauseBook book, int x, int... want) {
        for (int what = 0; what <= 6; what++) Check.due("clauseOf(" + x + ", " + what + ")", book.clauseOf(x, what), want[what]);
    }

    private static void promise8ClauseOf() {
        ClauseBook book = new ClauseBook();
        book.clause(1, 0, 0, 0);
        book.clause(3, -2, 0, 0);
        book.clause(5, 0, 1, 0);
        book.clause(8, 4, 2, 0);
        book.clause(12, 50, 3, 2);
        asked(book, 0, 1, 0, -1, -1, 6, 1, 1);
        asked(book, 1, 3, -2, 0, -1, 6, 2, 2);
        asked(book, 2, 5, 0, 1, 0, 6, 4, 3);
        asked(book, 3, 8, 4, 2, -1, 4, 5, 4);
        asked(book, 4, 12, 50, 3, 2, 6, 10, 5);
        Check.due("what", book.clauseOf(0, -1), ClauseBook.BAD);
        Check.due("what", book.clauseOf(0, 7), ClauseBook.BAD);
        Check.due("x", book.clauseOf(5, 0), ClauseBook.BAD);
        Check.due("x", book.clauseOf(-1, 0), ClauseBook.BAD);
        book.clause(9, 0, 0, 2);
        asked(book, 5, 9, 0, 0, 2, 6, 6, 4);
        ClauseBook tower = new ClauseBook();
        tower.clause(1, 0, 0, 0);
        for (int i = 0; i < 23; i++) tower.clause(5, 0, i, i);
        Check.due("made of", tower.clauseOf(23, 5), (1 << 24) - 1);
        Check.due("deep", tower.clauseOf(23, 6), 24);
    }

    private static void promise8Ends() {
        ClauseBook book = new ClauseBook();
        book.clause(0, 0, 0, 0);
        book.clause(8, 5, 0, 0);
        book.clause(8, 2, 0, 0);
        book.clause(8, 3, 2, 0);
        Check.due("UNTIL 3 of what ends on 2", book.clauseOf(3, 4), 2);
        book.clause(8, 3, 1, 0);
        Check.due("UNTIL 3 of what ends on 5", book.clauseOf(4, 4), 3);
        for (int kind : new int[] {2, 3, 4, 10, 11}) {
            Check.due("with c alone", book.clauseOf(book.clause(kind, 0, 2, 0), 4), 2);
            book.drop();
        }
        for (int kind : new int[] {5, 6, 7, 9, 12}) {
            Check.due("with c, d", book.clauseOf(book.clause(kind, 0, 2, 1), 4), 5);
            book.drop();
            Check.due("with c, d", book.clauseOf(book.clause(kind, 0, 1, 2), 4), 5);
            book.drop();
        }
    }

    private static void promise9Drop() {
        ClauseBook book = new ClauseBook();
        Check.due("none", book.drop(), ClauseBook.STATE);
        book.clause(1, 0, 0, 0);
        book.clause(3, 5, 0, 0);
        book.put(0, 1);
        book.hold(0, 1, 1, 0);
        Check.due("value ahead of it", book.value(1, 0, 0, 0), 5);
        Check.due("drop", book.drop(), 1);
        Check.due("no more", book.clauseOf(1, 0), ClauseBook.BAD);
        Check.due("the bag holds the number", book.bagOf(0, 0), 1);
        Check.due("but no clause", book.count(3), 0);
        Check.due("the hand holds none", book.asClause(0, 3), ClauseBook.NOTHING);
        book.clause(3, 7, 0, 0);
        Check.due("a number is one of a clause again", book.count(3), 1);
        Check.due("so in the hand", book.asClause(0, 1), 3);
        Check.due("its value is its own", book.value(1, 0, 0, 0), 7);
        book.drop();
        Check.due("drop", book.drop(), 0);
        Check.due("none", book.drop(), ClauseBook.STATE);
    }

    private static void promise10Swap() {
        ClauseBook book = new ClauseBook();
        book.clause(1, 0, 0, 0);
        book.clause(8, 3, 0, 0);
        book.clause(3, 4, 0, 0);
        book.clause(5, 0, 0, 0);
        book.clause(2, 0, 3, 0);
        Check.due("-(1 + 1)", book.value(4, 0, 0, 0), -2);
        Check.due("swap", book.swap(3, 2, 1), 1);
        Check.due("c", book.clauseOf(3, 2), 2);
        Check.due("d", book.clauseOf(3, 3), 1);
        Check.due("-(4 + 1)", book.value(4, 0, 0, 0), -5);
        Check.due("swap of one name", book.swap(2, 1, 0), 1);
        Check.due("END follows, two further on", book.clauseOf(4, 4), 3);
        Check.due("made of", book.clauseOf(4, 5), 7);
        Check.due("deep", book.clauseOf(4, 6), 5);
        Check.due("names none", book.swap(0, 0, 0), 1);
        Check.due("still none", book.clauseOf(0, 2), ClauseBook.NONE);
        Check.due("names none: c", book.swap(0, 1, 0), ClauseBook.BAD);
        Check.due("names none: d", book.swap(0, 0, 1), ClauseBook.BAD);
        Check.due("names one: d", book.swap(2, 0, 1), ClauseBook.BAD);
        Check.due("itself", book.swap(2, 2, 0), ClauseBook.BAD);
        Check.due("a later one", book.swap(2, 3, 0), ClauseBook.BAD);
        Check.due("of two, d itself", book.swap(3, 0, 3), ClauseBook.BAD);
        Check.due("of two, c below 0", book.swap(3, -1, 0), ClauseBook.BAD);
        Check.due("no such", book.swap(5, 0, 0), ClauseBook.BAD);
        Check.due("no such", book.swap(-1, 0, 0), ClauseBook.BAD);
        Check.due("nothing changed", book.value(4, 0, 0, 0), -5);
    }
}
