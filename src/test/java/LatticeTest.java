/** Promises 1 to 6: a new object, the prices, the odds, the wait, the paths. */
public final class LatticeTest {
    public static void main(String[] args) {
        promise1NewObject();
        promise2Start();
        promise3Odds();
        promise4Wait();
        promise5Price();
        promise6SpotOf();
        Check.end();
    }

    private static void promise1NewObject() {
        ClauseBook book = new ClauseBook();
        for (int what = 0; what < 4; what++) Check.due("new: count(" + what + ")", book.count(what), 0);
        Check.due("new: drop", book.drop(), ClauseBook.STATE);
        Check.due("new: back", book.back(), ClauseBook.STATE);
        for (int i = 0; i < 4; i++) {
            Check.due("new: sheet " + i, book.cell(i, 0, 0), ClauseBook.NOTHING);
            Check.due("new: hand " + i, book.hold(i, 0, 0, 0), 0);
        }
        for (int i = 0; i < 3; i++) Check.due("new: bag " + i, book.take(i), ClauseBook.NONE);
        Check.due("new: tape", book.feed(1, 0), 1);
        book.clause(1, 0, 0, 0);
        book.clause(4, 0, 0, 0);
        book.clause(8, 1, 1, 0);
        book.clause(10, 0, 2, 0);
        Check.due("new: START 0, UP 1", book.price(1, 1), 1);
        Check.due("new: DOWN 1", book.price(1, 0), -1);
        Check.due("new: ODDS 1 of 2, WAIT 1 of 1", book.value(3, 0, 0, 0), 0);
        book.clause(8, 1, 0, 0);
        book.clause(10, 0, 4, 0);
        Check.due("new: WAIT 1 of 1", book.value(5, 0, 0, 0), 1);
        ClauseBook other = new ClauseBook();
        Check.due("two objects share nothing", other.count(0), 0);
    }

    private static void promise2Start() {
        ClauseBook book = new ClauseBook();
        Check.due("start", book.start(99, 9, 9), 1);
        Check.due("START", book.price(0, 0), 99);
        Check.due("UP", book.price(6, 6), 153);
        Check.due("DOWN", book.price(6, 0), 45);
        Check.due("start at its least", book.start(-99, 0, 0), 1);
        Check.due("count(1)", book.count(1), -99);
        Check.due("UP, DOWN 0", book.price(6, 3), -99);
        int[][] bad = {{100, 0, 0}, {-100, 0, 0}, {0, -1, 0}, {0, 10, 0}, {0, 0, -1}, {0, 0, 10}, {Integer.MIN_VALUE, 1, 1}};
        for (int[] b : bad) Check.due("start, bad", book.start(b[0], b[1], b[2]), ClauseBook.BAD);
        Check.due("nothing changed", book.price(5, 2), -99);
    }

    /** Priced on day 1, had on day 0: START 10, up 2 to 12, down 3 to 7. */
    private static ClauseBook late() {
        ClauseBook book = new ClauseBook();
        book.start(10, 2, 3);
        book.clause(1, 0, 0, 0);
        book.clause(4, 0, 0, 0);
        book.clause(8, 1, 1, 0);
        book.clause(10, 0, 2, 0);
        return book;
    }

    private static void promise3Odds() {
        ClauseBook book = late();
        Check.due("odds", book.odds(2, 3), 1);
        Check.due("2 of 3: (2 * 12 + 7) / 3", book.value(3, 0, 0, 0), 31);
        Check.due("below", book.value(3, 0, 0, 1), 3);
        Check.due("odds 0", book.odds(0, 2), 1);
        Check.due("never up", book.value(3, 0, 0, 0), 7);
        Check.due("odds 9 of 9", book.odds(9, 9), 1);
        Check.due("always up", book.value(3, 0, 0, 0), 12);
        int[][] bad = {{0, 1}, {1, 1}, {-1, 2}, {3, 2}, {10, 9}, {1, 10}, {0, 0}, {Integer.MAX_VALUE, Integer.MAX_VALUE}};
        for (int[] b : bad) Check.due("odds, bad", book.odds(b[0], b[1]), ClauseBook.BAD);
        Check.due("nothing changed", book.value(3, 0, 0, 0), 12);
    }

    private static void promise4Wait() {
        ClauseBook book = late();
        Check.due("wait", book.wait(2, 9), 1);
        Check.due("2 of 9 of 19 of 2", book.value(3, 0, 0, 0), 19);
        Check.due("below", book.value(3, 0, 0, 1), 9);
        Check.due("wait 1 of 1", book.wait(1, 1), 1);
        Check.due("19 of 2", book.value(3, 0, 0, 0), 19);
        Check.due("below", book.value(3, 0, 0, 1), 2);
        int[][] bad = {{0, 1}, {2, 1}, {-1, 9}, {10, 10}, {1, 10}, {1, 0}, {0, 0}};
        for (int[] b : bad) Check.due("wait, bad", book.wait(b[0], b[1]), ClauseBook.BAD);
        Check.due("nothing changed", book.value(3, 0, 0, 1), 2);
    }

    private static void promise5Price() {
        ClauseBook book = new ClauseBook();
        book.start(-7, 3, 4);
        for (int day = 0; day <= 6; day++) {
            for (int spot = 0; spot <= day; spot++) Check.due("price", book.price(day, spot), -7 + 3 * spot - 4 * (day - spot));
            Check.due("no such spot", book.price(day, day + 1), ClauseBook.BAD);
            Check.due("no such spot", book.price(day, -1), ClauseBook.BAD);
        }
        Check.due("no such day", book.price(7, 0), ClauseBook.BAD);
        Check.due("no such day", book.price(-1, -1), ClauseBook.BAD);
        Check.due("no such day", book.price(Integer.MAX_VALUE, Integer.MAX_VALUE), ClauseBook.BAD);
    }

    private static void promise6SpotOf() {
        ClauseBook book = new ClauseBook();
        Check.due("101101, day 0", book.spotOf(45, 0), 0);
        Check.due("101101, day 1", book.spotOf(45, 1), 1);
        Check.due("101101, day 2", book.spotOf(45, 2), 1);
        Check.due("101101, day 3", book.spotOf(45, 3), 2);
        Check.due("101101, day 6", book.spotOf(45, 6), 4);
        Check.due("always down", book.spotOf(0, 6), 0);
        Check.due("always up", book.spotOf(63, 6), 6);
        Check.due("no such path", book.spotOf(64, 0), ClauseBook.BAD);
        Check.due("no such path", book.spotOf(-1, 0), ClauseBook.BAD);
        Check.due("no such day", book.spotOf(0, 7), ClauseBook.BAD);
        Check.due("no such day", book.spotOf(0, -1), ClauseBook.BAD);
    }
}
