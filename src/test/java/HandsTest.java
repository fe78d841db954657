/** Promises 36 to 42: things in hands, an image, counts. */
public final class HandsTest {
    private static final long NO = ClauseBook.NO;
    private static final int BAD = ClauseBook.BAD, NOTHING = ClauseBook.NOTHING, KIND = ClauseBook.KIND, MUCH = ClauseBook.MUCH;

    public static void main(String[] args) {
        promise36Hold();
        promise36Refused();
        promise37AsClause();
        promise38AsFraction();
        promise39Compare();
        promise39Close();
        promise40Image();
        promise41Back();
        promise42Count();
        Check.end();
    }

    /** 0 ONE, 1 SCALED 5, 2 BOTH, 3 NOTHING. */
    private static ClauseBook small() {
        ClauseBook book = new ClauseBook();
        book.clause(1, 0, 0, 0);
        book.clause(3, 5, 0, 0);
        book.clause(5, 0, 0, 1);
        book.clause(0, 0, 0, 0);
        return book;
    }

    private static void promise36Hold() {
        ClauseBook book = small();
        Check.due("held nothing", book.hold(3, 1, 2, -1), 0);
        Check.due("held a clause", book.hold(3, 2, 6, 4), 1);
        Check.due("held a fraction", book.hold(3, 0, -1, -1), 2);
        Check.due("held nothing", book.hold(3, 0, Long.MIN_VALUE, 0), 0);
        book.hold(0, 2, -6, 4);
        Check.due("lowest terms", book.asFraction(0, 0), -3);
        Check.due("lowest terms", book.asFraction(0, 1), 2);
        book.hold(0, 2, 0, Long.MAX_VALUE);
        Check.due("0", book.asFraction(0, 0), 0);
        Check.due("0 of 1", book.asFraction(0, 1), 1);
        book.hold(0, 2, -Long.MAX_VALUE, Long.MAX_VALUE);
        Check.due("-1", book.asFraction(0, 0), -1);
        Check.due("of 1", book.asFraction(0, 1), 1);
        book.hold(0, 2, -Long.MAX_VALUE, 2);
        Check.due("the least", book.asFraction(0, 0), -Long.MAX_VALUE);
        book.hold(1, 1, 0, 0);
        Check.due("each hand its own", book.asFraction(0, 1), 2);
        Check.due("a clause that is no more was one", book.hold(2, 1, 3, 0), 0);
        book.drop();
        Check.due("a clause that is no more was one", book.hold(2, 0, 0, 0), 1);
    }

    private static void promise36Refused() {
        ClauseBook book = small();
        book.hold(0, 2, 1, 3);
        Check.due("hand", book.hold(4, 0, 0, 0), BAD);
        Check.due("hand", book.hold(-1, 0, 0, 0), BAD);
        Check.due("sort", book.hold(0, 3, 0, 1), BAD);
        Check.due("sort", book.hold(0, -1, 0, 1), BAD);
        Check.due("no such clause", book.hold(0, 1, 4, 1), BAD);
        Check.due("no such clause", book.hold(0, 1, -1, 1), BAD);
        Check.due("no such clause", book.hold(0, 1, 1L << 32, 1), BAD);
        Check.due("w", book.hold(0, 2, 1, 0), BAD);
        Check.due("w", book.hold(0, 2, 1, -1), BAD);
        Check.due("v", book.hold(0, 2, Long.MIN_VALUE, 1), BAD);
        Check.due("nothing changed", book.asFraction(0, 1), 3);
    }

    private static void promise37AsClause() {
        ClauseBook book = small();
        int[] kinds = {1, 3, 5, 0};
        int[] names = {0, 1, 2, 0};
        Check.due("nothing", book.asClause(0, 3), NOTHING);
        for (int x = 0; x < 4; x++) {
            book.hold(0, 1, x, 0);
            for (int kind = 0; kind < 3; kind++) Check.due("clause " + x + " as " + kind, book.asClause(0, kind), kind == names[x] ? kinds[x] : KIND);
            Check.due("of any", book.asClause(0, 3), kinds[x]);
        }
        book.drop();
        Check.due("no more", book.asClause(0, 0), NOTHING);
        Check.due("no more, names otherwise", book.asClause(0, 2), NOTHING);
        book.hold(0, 2, 1, 1);
        for (int kind = 0; kind < 4; kind++) Check.due("a fraction", book.asClause(0, kind), KIND);
        Check.due("hand", book.asClause(4, 0), BAD);
        Check.due("hand", book.asClause(-1, 0), BAD);
        Check.due("kind", book.asClause(1, 4), BAD);
        Check.due("kind", book.asClause(1, -1), BAD);
    }

    private static void promise38AsFraction() {
        ClauseBook book = small();
        Check.due("nothing", book.asFraction(0, 0), NO + NOTHING);
        book.hold(0, 1, 3, 0);
        Check.due("a clause", book.asFraction(0, 0), NO + KIND);
        book.drop();
        Check.due("a clause that is no more is no fraction either", book.asFraction(0, 0), NO + KIND);
        book.hold(0, 2, 15, 35);
        Check.due("above", book.asFraction(0, 0), 3);
        Check.due("below", book.asFraction(0, 1), 7);
        Check.due("part", book.asFraction(0, 2), NO + BAD);
        Check.due("part, nothing", book.asFraction(1, -1), NO + BAD);
        Check.due("hand", book.asFraction(4, 0), NO + BAD);
        Check.due("hand", book.asFraction(-1, 0), NO + BAD);
    }

    private static void promise39Compare() {
        ClauseBook book = small();
        Check.due("nothing", book.compare(0, 0, 0, 0), NOTHING);
        book.hold(0, 1, 0, 0);
        Check.due("a clause", book.compare(0, 0, 0, 0), KIND);
        book.hold(0, 2, 9, 2);
        Check.due("1 is less than 9 of 2", book.compare(0, 0, 0, 0), -1);
        Check.due("5 is more", book.compare(0, 1, 6, 6), 1);
        book.hold(0, 2, 10, 2);
        Check.due("5 is alike", book.compare(0, 1, 3, 2), 0);
        book.hold(0, 2, -1, 3);
        Check.due("0 is more than -1 of 3", book.compare(0, 3, 0, 0), 1);
        Check.due("x", book.compare(0, 4, 0, 0), BAD);
        Check.due("day", book.compare(0, 0, 7, 0), BAD);
        Check.due("spot", book.compare(0, 0, 1, 2), BAD);
        Check.due("hand", book.compare(4, 0, 0, 0), BAD);
        Check.due("hand, nothing in it, bad", book.compare(1, 4, 0, 0), BAD);
        for (int i = 3; i < 23; i++) book.clause(3, 9, i == 3 ? 0 : i, 0);
        Check.due("much", book.compare(0, 23, 0, 0), MUCH);
        Check.due("nothing goes ahead of much", book.compare(1, 23, 0, 0), NOTHING);
    }

    /** No product of theirs is of 64 bits, and yet they are told apart. */
    private static void promise39Close() {
        ClauseBook book = new ClauseBook();
        book.clause(1, 0, 0, 0);
        for (int i = 0; i < 20; i++) book.clause(3, 8, i, 0);
        long huge = 1L << 60;
        long[][] held = {{huge, 1, 0}, {huge - 1, 1, 1}, {huge + 1, 1, -1}, {Long.MAX_VALUE, 8, 1}, {Long.MAX_VALUE, 7, -1}, {-huge, 1, 1}, {1, Long.MAX_VALUE, 1}};
        for (long[] h : held) {
            book.hold(0, 2, h[0], h[1]);
            Check.due("2 to the 60th against " + h[0] + " of " + h[1], book.compare(0, 20, 0, 0), h[2]);
        }
        ClauseBook thin = new ClauseBook();
        thin.wait(1, 9);
        thin.odds(0, 9);
        thin.clause(1, 0, 0, 0);
        thin.clause(10, 0, 0, 0);
        Check.due("1 of 9 to the 6th", thin.value(1, 0, 0, 1), 531441);
        long k = 17354876433L * 1000;
        thin.hold(0, 2, k, k * 531441);
        Check.due("alike", thin.compare(0, 1, 0, 0), 0);
        thin.hold(0, 2, k + 1, k * 531441);
        Check.due("hardly less", thin.compare(0, 1, 0, 0), -1);
        thin.hold(0, 2, k, k * 531441 + 1);
        Check.due("hardly more", thin.compare(0, 1, 0, 0), 1);
        thin.clause(2, 0, 1, 0);
        thin.hold(0, 2, -k - 1, k * 531441);
        Check.due("hardly more, below 0", thin.compare(0, 2, 0, 0), 1);
        thin.hold(0, 2, -k, k * 531441 + 1);
        Check.due("hardly less, below 0", thin.compare(0, 2, 0, 0), -1);
    }

    private static void promise40Image() {
        ClauseBook book = new ClauseBook();
        Check.due("of none", book.image(), 0);
        book.clause(1, 0, 0, 0);
        Check.due("of one", book.image(), 1);
        book.clause(1, 0, 0, 0);
        Check.due("the last image is kept", book.back(), 1);
    }

    private static void promise41Back() {
        ClauseBook book = small();
        Check.due("there is none", book.back(), ClauseBook.STATE);
        book.start(20, 4, 3);
        book.odds(1, 3);
        book.wait(3, 4);
        book.clause(4, 0, 1, 0);
        book.put(0, 2);
        book.put(2, 3);
        book.put(2, 4);
        book.sheet(0, 0, 1);
        Check.due("image", book.image(), 5);
        for (int again = 0; again < 2; again++) {
            spoil(book);
            Check.due("back", book.back(), 5);
            asKept(book);
        }
        Check.due("sheets stay", book.read(0, 0, 0), 77);
        Check.due("hands stay", book.hold(0, 1, 0, 0), 1);
        book.feed(1, 'x' << 24);
        Check.due("the tape stays, with two blanks", book.text(), -102);
    }

    /** All that an image keeps becomes other, and some that it doesn't keep. */
    private static void spoil(ClauseBook book) {
        book.start(-20, 1, 1);
        book.odds(2, 7);
        book.wait(2, 5);
        while (book.count(0) > 1) book.drop();
        book.clause(8, 1, 0, 0);
        book.clause(2, 0, 1, 0);
        book.clause(12, 3, 2, 1);
        book.clause(11, 0, 3, 0);
        book.clause(11, 0, 4, 0);
        for (int x = 0; x < 6; x++) book.value(x, 0, 0, 0);
        book.take(0);
        book.put(0, 1);
        book.put(0, 0);
        book.put(1, 1);
        book.take(2);
        book.take(2);
        book.put(2, 5);
        book.cell(0, 0, 77);
        book.hold(0, 1, 4, 0);
        book.feed(1, ' ' << 24);
    }

    private static void asKept(ClauseBook book) {
        Check.due("START, UP, DOWN", book.price(3, 2), 25);
        // (24 * 5 * 1 + 17 * 5 * 2) * 3 of 12: 290 of 4
        Check.due("ODDS, WAIT", book.mean(4, 0, 0, 0), 145);
        Check.due("ODDS, WAIT", book.mean(4, 0, 0, 1), 2);
        int[][] want = {{1, 0, -1, -1, 6, 1, 1}, {3, 5, 0, -1, 6, 2, 2}, {5, 0, 0, 1, 6, 4, 3}, {0, 0, -1, -1, 6, 1, 1}, {4, 0, 1, -1, 6, 3, 3}};
        for (int x = 0; x < 5; x++) for (int what = 0; what < 7; what++) Check.due("clauseOf(" + x + ", " + what + ")", book.clauseOf(x, what), want[x][what]);
        int[] values = {1, 5, 6, 0, 100};
        for (int x = 0; x < 5; x++) Check.due("value", book.value(x, 0, 0, 0), values[x]);
        Check.due("what came", book.clauseOf(5, 0), BAD);
        Check.due("bag 0", book.bagOf(0, 0), 2);
        Check.due("bag 0", book.bagOf(0, 1), ClauseBook.PLACE);
        Check.due("bag 1", book.bagOf(1, 0), ClauseBook.PLACE);
        Check.due("bag 2", book.bagOf(2, 0), 3);
        Check.due("bag 2", book.bagOf(2, 1), 4);
    }

    private static void promise42Count() {
        ClauseBook book = small();
        book.start(-42, 0, 0);
        Check.due("CLAUSES", book.count(0), 4);
        Check.due("START", book.count(1), -42);
        Check.due("named by none: BOTH, NOTHING", book.count(2), 2);
        book.swap(2, 1, 1);
        Check.due("ONE is named by SCALED", book.count(2), 2);
        book.swap(2, 0, 0);
        Check.due("SCALED is named by none", book.count(2), 3);
        book.put(0, 3);
        book.put(1, 3);
        book.put(1, 0);
        Check.due("in bags", book.count(3), 3);
        book.drop();
        Check.due("in bags, but a number of none", book.count(3), 1);
        Check.due("what", book.count(4), BAD);
        Check.due("what", book.count(-1), BAD);
    }
}
