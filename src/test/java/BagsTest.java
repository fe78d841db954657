/** Promises 25 to 30: bags of clauses. */
public final class BagsTest {
    public static void main(String[] args) {
        promise25Put();
        promise26Take();
        promise27BagOf();
        promise28Pour();
        promise29BagBest();
        promise30Sum();
        Check.end();
    }

    /** 0 ONE, 1 SCALED 5, 2 SCALED -5, 3 GIVEN ONE. */
    private static ClauseBook small() {
        ClauseBook book = new ClauseBook();
        book.clause(1, 0, 0, 0);
        book.clause(3, 5, 0, 0);
        book.clause(3, -5, 0, 0);
        book.clause(2, 0, 0, 0);
        return book;
    }

    private static void holds(ClauseBook book, int bag, int... want) {
        for (int i = 0; i < want.length; i++) Check.due("bag " + bag + " at " + i, book.bagOf(bag, i), want[i]);
        Check.due("bag " + bag + " holds no more", book.bagOf(bag, want.length), ClauseBook.PLACE);
    }

    private static void fill(ClauseBook book, int bag, int... clauses) {
        for (int x : clauses) book.put(bag, x);
    }

    private static void promise25Put() {
        ClauseBook book = small();
        for (int i = 1; i <= 12; i++) Check.due("put", book.put(2, i % 4), i);
        Check.due("the 13th", book.put(2, 0), ClauseBook.FULL);
        Check.due("the 13th, bad", book.put(2, 4), ClauseBook.BAD);
        Check.due("another bag", book.put(0, 3), 1);
        holds(book, 2, 1, 2, 3, 0, 1, 2, 3, 0, 1, 2, 3, 0);
        holds(book, 0, 3);
        Check.due("bag", book.put(3, 0), ClauseBook.BAD);
        Check.due("bag", book.put(-1, 0), ClauseBook.BAD);
        Check.due("x", book.put(1, -1), ClauseBook.BAD);
        holds(book, 1);
    }

    private static void promise26Take() {
        ClauseBook book = small();
        fill(book, 1, 3, 0, 2);
        book.drop();
        Check.due("the last", book.take(1), 2);
        Check.due("the last", book.take(1), 0);
        Check.due("a number of none", book.take(1), 3);
        Check.due("empty", book.take(1), ClauseBook.NONE);
        Check.due("bag", book.take(3), ClauseBook.BAD);
        Check.due("bag", book.take(-1), ClauseBook.BAD);
    }

    private static void promise27BagOf() {
        ClauseBook book = small();
        fill(book, 0, 2, 2, 1);
        holds(book, 0, 2, 2, 1);
        Check.due("place", book.bagOf(0, -1), ClauseBook.PLACE);
        Check.due("place", book.bagOf(0, Integer.MAX_VALUE), ClauseBook.PLACE);
        Check.due("bag", book.bagOf(3, 0), ClauseBook.BAD);
        Check.due("bag", book.bagOf(-1, -1), ClauseBook.BAD);
        book.take(0);
        Check.due("what was taken", book.bagOf(0, 2), ClauseBook.PLACE);
    }

    private static void promise28Pour() {
        ClauseBook book = small();
        fill(book, 0, 1, 0, 2, 3, 1);
        fill(book, 1, 3);
        Check.due("SCALED", book.pour(0, 1, 3), 3);
        holds(book, 0, 0, 3);
        holds(book, 1, 3, 1, 2, 1);
        Check.due("none of it", book.pour(0, 1, 12), 0);
        book.drop();
        Check.due("a number of none is of no kind", book.pour(0, 1, 2), 0);
        Check.due("all", book.pour(0, 1, -1), 2);
        holds(book, 0);
        holds(book, 1, 3, 1, 2, 1, 0, 3);
        fill(book, 2, 0, 1, 0, 1, 0, 1, 0, 1, 0);
        Check.due("room for three", book.pour(1, 2, -1), 3);
        holds(book, 1, 1, 0, 3);
        holds(book, 2, 0, 1, 0, 1, 0, 1, 0, 1, 0, 3, 1, 2);
        Check.due("no room", book.pour(1, 2, -1), 0);
        Check.due("of a kind, from a full one", book.pour(2, 0, 1), 5);
        holds(book, 2, 1, 1, 1, 1, 3, 1, 2);
        Check.due("one and the same", book.pour(0, 0, -1), ClauseBook.BAD);
        Check.due("from", book.pour(3, 0, -1), ClauseBook.BAD);
        Check.due("to", book.pour(0, -1, -1), ClauseBook.BAD);
        Check.due("kind", book.pour(0, 1, -2), ClauseBook.BAD);
        Check.due("kind", book.pour(0, 1, 13), ClauseBook.BAD);
    }

    private static void promise29BagBest() {
        ClauseBook book = small();
        Check.due("empty", book.bagBest(0, 0, 0), ClauseBook.NONE);
        fill(book, 0, 2, 0, 1, 1, 3);
        Check.due("5, the first", book.bagBest(0, 0, 0), 2);
        fill(book, 2, 1, 0, 1);
        Check.due("5, at place 0", book.bagBest(2, 0, 0), 0);
        fill(book, 1, 3);
        book.drop();
        Check.due("a number of none", book.bagBest(1, 0, 0), ClauseBook.NONE);
        fill(book, 1, 2);
        Check.due("the one that there is", book.bagBest(1, 0, 0), 1);
        Check.due("bag", book.bagBest(3, 0, 0), ClauseBook.BAD);
        Check.due("day", book.bagBest(0, 7, 0), ClauseBook.BAD);
        Check.due("spot", book.bagBest(0, 2, 3), ClauseBook.BAD);
        for (int i = 2; i < 23; i++) book.clause(3, 9, i, 0);
        fill(book, 0, 23);
        Check.due("much", book.bagBest(0, 0, 0), ClauseBook.MUCH);
        book.drop();
        Check.due("what is no more isn't", book.bagBest(0, 0, 0), 2);
    }

    private static void promise30Sum() {
        ClauseBook book = small();
        Check.due("empty", book.sum(0), ClauseBook.NONE);
        fill(book, 0, 1);
        Check.due("one alone", book.sum(0), 1);
        Check.due("nothing came", book.count(0), 4);
        fill(book, 0, 2, 3);
        Check.due("three", book.sum(0), 5);
        int[][] want = {{5, 0, 1, 2}, {5, 0, 4, 3}};
        for (int x = 4; x < 6; x++) for (int what = 0; what < 4; what++) Check.due("clause " + x, book.clauseOf(x, what), want[x - 4][what]);
        Check.due("5 - 5 - 1", book.value(5, 0, 0, 0), -1);
        holds(book, 0, 1, 2, 3);
        Check.due("bag", book.sum(3), ClauseBook.BAD);
        Check.due("bag", book.sum(-1), ClauseBook.BAD);
        fill(book, 2, 0, 1, 0, 1, 0, 1, 0, 1, 0, 1, 0, 1);
        Check.due("a full bag", book.sum(2), 16);
        Check.due("6 * 1 + 6 * 5", book.value(16, 0, 0, 0), 36);
        while (book.count(0) < 22) book.clause(0, 0, 0, 0);
        Check.due("just room", book.sum(0), 23);
        Check.due("full", book.sum(0), ClauseBook.FULL);
        book.drop();
        Check.due("full, room for one", book.sum(0), ClauseBook.FULL);
        Check.due("nothing came", book.count(0), 23);
        fill(book, 0, 22);
        book.drop();
        Check.due("a number of none goes ahead of full", book.sum(0), ClauseBook.NONE);
        fill(book, 1, 21);
        book.drop();
        Check.due("one alone, of none", book.sum(1), ClauseBook.NONE);
    }
}
