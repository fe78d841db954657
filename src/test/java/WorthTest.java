/** Promises 11 to 18: what clauses are worth, what is chosen, when it is taken, what is alike. */
public final class WorthTest {
    private static final long NO_BAD = ClauseBook.NO + ClauseBook.BAD;
    private static final long NO_MUCH = ClauseBook.NO + ClauseBook.MUCH;

    public static void main(String[] args) {
        promise11Value();
        promise11BehindTheEnd();
        promise11InTime();
        promise11Much();
        promise11JustNotMuch();
        promise11SumMuch();
        promise11WhatNeedsMuch();
        promise11WhatNeedsMuchLater();
        promise12Mean();
        promise13ValueAs();
        promise14Chosen();
        promise15Taken();
        promise16Alike();
        promise17Unlike();
        promise18Most();
        Check.end();
    }

    private static void worth(String what, ClauseBook book, int x, int day, int spot, long above, long below) {
        Check.due(what + ", above", book.value(x, day, spot, 0), above);
        Check.due(what + ", below", book.value(x, day, spot, 1), below);
    }

    /** 0 ONE, 1 NOTHING, 2 PRICED ONE, 3 UNTIL 2 ONE, 4 UNTIL 2 PRICED; prices 10, up 3, down 2. */
    private static ClauseBook small() {
        ClauseBook book = new ClauseBook();
        book.start(10, 3, 2);
        book.clause(1, 0, 0, 0);
        book.clause(0, 0, 0, 0);
        book.clause(4, 0, 0, 0);
        book.clause(8, 2, 0, 0);
        book.clause(8, 2, 2, 0);
        return book;
    }

    private static void promise11Value() {
        ClauseBook book = small();
        worth("ONE", book, 0, 6, 0, 1, 1);
        worth("NOTHING", book, 1, 0, 0, 0, 1);
        worth("PRICED", book, 2, 3, 1, 9, 1);
        worth("GIVEN", book, book.clause(2, 0, 2, 0), 3, 1, -9, 1);
        worth("SCALED", book, book.clause(3, -4, 2, 0), 3, 1, -36, 1);
        worth("SCALED 0", book, book.clause(3, 0, 2, 0), 3, 1, 0, 1);
        worth("BOTH", book, book.clause(5, 0, 2, 0), 3, 1, 10, 1);
        int better = book.clause(6, 0, 0, 2);
        worth("BETTER", book, better, 3, 1, 9, 1);
        worth("WORSE", book, book.clause(7, 0, 0, 2), 3, 1, 1, 1);
        int where = book.clause(12, 9, 0, 1);
        worth("WHERE it is n", book, where, 3, 1, 1, 1);
        worth("WHERE it is more", book, where, 3, 2, 1, 1);
        worth("WHERE it is less", book, where, 3, 0, 0, 1);
        Check.due("x", book.value(-1, 0, 0, 0), NO_BAD);
        Check.due("x", book.value(book.count(0), 0, 0, 0), NO_BAD);
        Check.due("day", book.value(0, 7, 0, 0), NO_BAD);
        Check.due("day", book.value(0, -1, 0, 0), NO_BAD);
        Check.due("spot", book.value(0, 3, 4, 0), NO_BAD);
        Check.due("spot", book.value(0, 3, -1, 0), NO_BAD);
        Check.due("part", book.value(0, 0, 0, 2), NO_BAD);
        Check.due("part", book.value(0, 0, 0, -1), NO_BAD);
    }

    private static void promise11BehindTheEnd() {
        ClauseBook book = small();
        worth("UNTIL, on its day", book, 4, 2, 0, 6, 1);
        worth("UNTIL, behind it", book, 4, 3, 0, 0, 1);
        int both = book.clause(5, 0, 3, 2);
        worth("BOTH, both", book, both, 2, 1, 12, 1);
        worth("BOTH, one alone", book, both, 3, 1, 9, 1);
        int minus = book.clause(3, -9, 0, 0);
        int better = book.clause(6, 0, 3, minus);
        worth("BETTER, both", book, better, 2, 0, 1, 1);
        worth("BETTER, d alone", book, better, 3, 0, -9, 1);
        int worse = book.clause(7, 0, 0, 3);
        worth("WORSE, c alone", book, worse, 5, 0, 1, 1);
        int then = book.clause(9, 0, 3, minus);
        worth("THEN, c", book, then, 2, 0, 1, 1);
        worth("THEN, d", book, then, 3, 0, -9, 1);
        int thenNo = book.clause(9, 0, 0, 3);
        worth("THEN, never d", book, thenNo, 6, 0, 1, 1);
        int where = book.clause(12, 0, 3, 2);
        worth("WHERE, the one that it names can't be had", book, where, 3, 3, 0, 1);
        worth("WHERE, it can", book, where, 2, 2, 1, 1);
        int allGone = book.clause(6, 0, 3, 4);
        worth("BETTER, neither", book, allGone, 3, 0, 0, 1);
    }

    private static void promise11InTime() {
        ClauseBook book = small();
        book.odds(2, 3);
        book.wait(8, 9);
        int late = book.clause(10, 0, 4, 0);
        int free = book.clause(11, 0, 4, 0);
        worth("LATE on its end", book, late, 2, 1, 11, 1);
        // (2 * 16 + 11) * 8 / 27 and (2 * 11 + 6) * 8 / 27
        worth("LATE a day ahead, up", book, late, 1, 1, 344, 27);
        worth("LATE a day ahead, down", book, late, 1, 0, 224, 27);
        // (2 * 344 + 224) / 27 * 8 / 27 = 7296 / 729
        worth("LATE two days ahead", book, late, 0, 0, 2432, 243);
        worth("LATE behind its end", book, late, 3, 1, 0, 1);
        worth("FREE on its end", book, free, 2, 0, 6, 1);
        // 13 against 344 of 27; 8 against 224 of 27
        worth("FREE, now is more", book, free, 1, 1, 13, 1);
        worth("FREE, later is more", book, free, 1, 0, 224, 27);
        // (2 * 13 + 224 / 27) * 8 / 27 = 926 / 27 * 8 / 27 = 7408 / 729, more than 10
        worth("FREE two days ahead", book, free, 0, 0, 7408, 729);
        worth("FREE behind its end", book, free, 6, 6, 0, 1);
    }

    private static ClauseBook tower(int kind, int n, int times) {
        ClauseBook book = new ClauseBook();
        book.clause(1, 0, 0, 0);
        for (int i = 0; i < times; i++) book.clause(kind, n, i, 0);
        return book;
    }

    private static void promise11Much() {
        ClauseBook book = tower(3, 8, 23);
        worth("8 to the 20th", book, 20, 0, 0, 1L << 60, 1);
        Check.due("8 to the 21st", book.value(21, 0, 0, 0), NO_MUCH);
        Check.due("8 to the 21st, below", book.value(21, 0, 0, 1), NO_MUCH);
        Check.due("what needs it", book.value(22, 0, 0, 0), NO_MUCH);
        Check.due("bad goes first", book.value(22, 0, 0, 2), NO_BAD);
        book.drop();
        book.drop();
        Check.due("0 times too much", book.value(book.clause(3, 0, 21, 0), 0, 0, 0), NO_MUCH);
        book.drop();
        book.clause(5, 0, 20, 20);
        book.swap(21, 20, 0);
        Check.due("2 to the 61st", book.value(22, 0, 0, 0), 1L << 61);
    }

    private static void promise11JustNotMuch() {
        ClauseBook book = tower(3, -8, 21);
        worth("-8 to the 21st is of 64 bits", book, 21, 0, 0, Long.MIN_VALUE, 1);
        int given = book.clause(2, 0, 21, 0);
        Check.due("less than 0 by as much is not", book.value(given, 0, 0, 0), NO_MUCH);
        book.swap(given, 20, 0);
        Check.due("2 to the 60th less than 0", book.value(given, 0, 0, 0), -(1L << 60));
    }

    private static void promise11SumMuch() {
        ClauseBook book = tower(3, 8, 20);
        int half = book.clause(3, 4, 20, 0);
        int both = book.clause(5, 0, half, half);
        Check.due("2 to the 62nd and 2 to the 62nd", book.value(both, 0, 0, 0), NO_MUCH);
        book.swap(both, half, 20);
        Check.due("2 to the 62nd and 2 to the 60th", book.value(both, 0, 0, 0), 5L << 60);
        ClauseBook minus = tower(3, -8, 21);
        int one = minus.clause(2, 0, 0, 0);
        Check.due("-2 to the 63rd less 1", minus.value(minus.clause(5, 0, 21, one), 0, 0, 0), NO_MUCH);
        minus.swap(23, 21, 0);
        Check.due("-2 to the 63rd and 1", minus.value(23, 0, 0, 0), -Long.MAX_VALUE);
    }

    /** 23 is FREE of a clause that is too much where the price is 6, on day 0 alone, and 1 elsewhere. */
    private static ClauseBook muchAtOnce() {
        ClauseBook book = tower(3, 9, 20);
        book.start(6, 1, 9);
        book.clause(12, 7, 0, 20);
        book.clause(12, 6, 21, 0);
        book.clause(11, 0, 22, 0);
        return book;
    }

    private static void promise11WhatNeedsMuch() {
        ClauseBook book = tower(3, 9, 20);
        Check.due("9 to the 20th", book.value(20, 0, 0, 0), NO_MUCH);
        int until = book.clause(8, 2, 20, 0);
        int then = book.clause(9, 0, until, 0);
        Check.due("THEN needs c", book.value(then, 2, 0, 0), NO_MUCH);
        Check.due("THEN needs d alone", book.value(then, 3, 0, 0), 1);
        int better = book.clause(6, 0, 0, until);
        Check.due("BETTER needs both", book.value(better, 2, 0, 0), NO_MUCH);
        Check.due("BETTER needs the one that can be had", book.value(better, 3, 0, 0), 1);
        book.drop();
        int where = book.clause(12, 0, 0, 20);
        Check.due("WHERE needs c alone", book.value(where, 2, 1, 0), 1);
        Check.due("WHERE needs d", book.value(where, 2, 0, 0), NO_MUCH);
    }

    private static void promise11WhatNeedsMuchLater() {
        ClauseBook book = tower(3, 9, 20);
        book.odds(0, 2);
        int where = book.clause(12, 6, 20, 0);
        Check.due("MEAN needs what never comes, too", book.mean(where, 5, 5, 0), NO_MUCH);
        Check.due("MEAN elsewhere", book.mean(where, 5, 4, 0), 1);
        int late = book.clause(10, 0, where, 0);
        int free = book.clause(11, 0, where, 0);
        Check.due("LATE needs later ones", book.value(late, 4, 4, 0), NO_MUCH);
        Check.due("LATE needs no others", book.value(late, 4, 3, 0), 1);
        Check.due("FREE needs later ones", book.value(free, 4, 4, 0), NO_MUCH);
        Check.due("FREE needs no others", book.value(free, 4, 3, 0), 1);
        ClauseBook once = muchAtOnce();
        Check.due("MEAN is not much", once.mean(23, 0, 0, 0), 1);
        Check.due("FREE needs c at once", once.value(23, 0, 0, 0), NO_MUCH);
        Check.due("FREE on the next day", once.value(23, 1, 0, 0), 1);
    }

    private static void promise12Mean() {
        ClauseBook book = small();
        book.odds(1, 3);
        book.wait(3, 6);
        // (14 of day 1 gone up: 13) + 2 * 8 = 29; times 3 of 18: 29 of 6
        Check.due("mean above", book.mean(2, 0, 0, 0), 29);
        Check.due("mean below", book.mean(2, 0, 0, 1), 6);
        Check.due("mean behind the end", book.mean(4, 2, 0, 0), 0);
        Check.due("mean behind the end", book.mean(4, 2, 0, 1), 1);
        Check.due("on day 5", book.mean(0, 5, 5, 1), 2);
        Check.due("on day 6", book.mean(0, 6, 0, 0), NO_BAD);
        Check.due("day", book.mean(0, -1, 0, 0), NO_BAD);
        Check.due("spot", book.mean(0, 2, 3, 0), NO_BAD);
        Check.due("part", book.mean(0, 0, 0, 2), NO_BAD);
        Check.due("x", book.mean(5, 0, 0, 0), NO_BAD);
        ClauseBook much = tower(3, 8, 21);
        Check.due("mean, 2 to the 60th in halves", much.mean(20, 0, 0, 0), 1L << 60);
        Check.due("mean of too much", much.mean(21, 0, 0, 0), NO_MUCH);
        much.odds(4, 9);
        Check.due("5 times 2 to the 60th fits, the sum does not", much.mean(20, 0, 0, 0), NO_MUCH);
    }

    private static void as(ClauseBook book, int x, int day, int spot) {
        double v = (double) book.value(x, day, spot, 0) / book.value(x, day, spot, 1);
        long[] want = {(long) (v * 100), Float.floatToIntBits((float) v), Double.doubleToLongBits(v), (int) (v % 1.0 * 1000),
            Double.doubleToLongBits(v % 0.375), Float.floatToIntBits((float) v % 0.75f)};
        for (int how = 0; how < 6; how++) Check.due("valueAs " + v + " as " + how, book.valueAs(x, day, spot, how), want[how]);
    }

    /** As in small(), and 5 LATE 4, 6 GIVEN 5. */
    private static ClauseBook smallInTime() {
        ClauseBook book = small();
        book.odds(2, 7);
        book.wait(8, 9);
        book.clause(10, 0, 4, 0);
        book.clause(2, 0, 5, 0);
        return book;
    }

    private static void promise13ValueAs() {
        for (int x = 0; x < 7; x++) {
            ClauseBook each = smallInTime();
            for (int day = 0; day < 7; day++) for (int spot = 0; spot <= day; spot++) as(each, x, day, spot);
        }
        ClauseBook book = smallInTime();
        book.start(-6, 0, 0);
        as(book, 2, 0, 0);
        Check.due("-6 % 0.375 is -0.0", book.valueAs(2, 0, 0, 4), Long.MIN_VALUE);
        Check.due("-6 % 0.75f is -0.0f", book.valueAs(2, 0, 0, 5), Integer.MIN_VALUE);
        Check.due("0", book.valueAs(1, 0, 0, 2), 0);
        Check.due("how", book.valueAs(0, 0, 0, 6), NO_BAD);
        Check.due("how", book.valueAs(0, 0, 0, -1), NO_BAD);
        Check.due("x", book.valueAs(7, 0, 0, 0), NO_BAD);
        Check.due("spot", book.valueAs(0, 0, 1, 0), NO_BAD);
        ClauseBook tower = tower(3, -8, 21);
        for (int x = 0; x <= 21; x++) as(tower, x, 0, 0);
        ClauseBook sevens = tower(3, 7, 23);
        for (int x = 0; x <= 22; x++) as(sevens, x, 0, 0);
        Check.due("much", sevens.valueAs(23, 0, 0, 2), NO_MUCH);
        Check.due("much, bad goes first", sevens.valueAs(23, 0, 0, 6), NO_BAD);
    }

    private static void promise14Chosen() {
        ClauseBook book = small();
        book.clause(3, 9, 0, 0);
        int better = book.clause(6, 0, 2, 5);
        int worse = book.clause(7, 0, 2, 5);
        Check.due("BETTER, 9 and 9", book.chosen(better, 3, 1), 2);
        Check.due("BETTER, 8 and 9", book.chosen(better, 1, 0), 5);
        Check.due("BETTER, 10 and 9", book.chosen(better, 0, 0), 2);
        Check.due("WORSE, 9 and 9", book.chosen(worse, 3, 1), 2);
        Check.due("WORSE, 8 and 9", book.chosen(worse, 1, 0), 2);
        Check.due("WORSE, 10 and 9", book.chosen(worse, 0, 0), 5);
        int gone = book.clause(6, 0, 4, 1);
        Check.due("c", book.chosen(gone, 2, 0), 4);
        Check.due("d, the one that can be had", book.chosen(gone, 3, 0), 1);
        int ended = book.clause(7, 0, 4, 3);
        Check.due("on the last day of both", book.chosen(ended, 2, 0), 3);
        Check.due("neither", book.chosen(ended, 3, 0), ClauseBook.STATE);
        for (int x = 0; x < 6; x++) Check.due("neither BETTER nor WORSE", book.chosen(x, 3, 0), ClauseBook.BAD);
        Check.due("x", book.chosen(ended + 1, 0, 0), ClauseBook.BAD);
        Check.due("spot", book.chosen(better, 0, 1), ClauseBook.BAD);
        Check.due("day", book.chosen(better, 7, 0), ClauseBook.BAD);
        ClauseBook tower = tower(3, 9, 20);
        tower.clause(8, 2, 20, 0);
        tower.clause(6, 0, 21, 0);
        tower.clause(7, 0, 20, 21);
        Check.due("much", tower.chosen(22, 2, 0), ClauseBook.MUCH);
        Check.due("no value is needed", tower.chosen(22, 3, 0), 0);
        Check.due("nor that of the one that can be had", tower.chosen(23, 3, 0), 20);
    }

    private static void promise15Taken() {
        ClauseBook book = small();
        book.odds(2, 3);
        book.wait(8, 9);
        int free = book.clause(11, 0, 4, 0);
        // day 0: 10 is less than 7408 of 729; day 1: up 13 is more, down 8 is less than 224 of 27
        Check.due("up", book.taken(free, 0, 1), 1);
        Check.due("down", book.taken(free, 0, 0), 2);
        Check.due("had on day 1", book.taken(free, 1, 1), 1);
        Check.due("had on its end", book.taken(free, 2, 0), 2);
        Check.due("had behind its end", book.taken(free, 3, 0), ClauseBook.STATE);
        int same = book.clause(11, 0, 0, 0);
        book.wait(1, 1);
        Check.due("no less is enough", book.taken(same, 0, 0), 0);
        Check.due("path", book.taken(free, 0, 64), ClauseBook.BAD);
        Check.due("path", book.taken(free, 0, -1), ClauseBook.BAD);
        Check.due("day", book.taken(free, 7, 0), ClauseBook.BAD);
        Check.due("x", book.taken(free + 2, 0, 0), ClauseBook.BAD);
        Check.due("not FREE, behind its end", book.taken(4, 3, 0), ClauseBook.BAD);
        ClauseBook tower = tower(3, 9, 20);
        tower.clause(11, 0, 20, 0);
        Check.due("much", tower.taken(21, 5, 0), ClauseBook.MUCH);
        Check.due("on its end no value is needed", tower.taken(21, 6, 0), 6);
        // 22 is too much where the price is 5 or more, 23 would take it
        tower.drop();
        tower.clause(12, 5, 20, 1);
        tower.clause(11, 0, 21, 0);
        Check.due("MEAN alone is much", tower.taken(22, 4, 15), ClauseBook.MUCH);
        Check.due("VALUE of c alone is much", muchAtOnce().taken(23, 0, 0), ClauseBook.MUCH);
        tower.start(0, 1, 9);
        Check.due("ahead of what is much", tower.taken(22, 3, 0), 3);
    }

    private static void promise16Alike() {
        ClauseBook book = small();
        int given = book.clause(2, 0, 2, 0);
        int again = book.clause(2, 0, given, 0);
        Check.due("given twice", book.alike(2, again), 1);
        Check.due("given once", book.alike(2, given), 0);
        int until = book.clause(8, 2, 1, 0);
        Check.due("values alike, ends not", book.alike(1, until), 0);
        int scaled = book.clause(3, 0, 3, 0);
        Check.due("values, ends alike", book.alike(scaled, until), 1);
        int atOnce = book.clause(12, 10, 1, 0);
        book.start(10, 0, 1);
        book.clause(12, 10, 0, 0);
        Check.due("unlike on the highest spots alone", book.alike(atOnce, 0), 0);
        book.start(10, 1, 0);
        Check.due("unlike everywhere", book.alike(atOnce, 0), 0);
        book.start(9, 2, 0);
        Check.due("unlike but on the lowest spots", book.alike(atOnce, 0), 0);
        int first = book.clause(8, 0, 0, 0);
        int none = book.clause(8, 0, 1, 0);
        Check.due("unlike on day 0 alone", book.alike(first, none), 0);
        int lowest = book.clause(12, -13, 1, 0);
        book.start(10, 4, 4);
        Check.due("unlike on the lowest spot alone", book.alike(lowest, 1), 0);
        Check.due("x", book.alike(-1, 0), ClauseBook.BAD);
        Check.due("y", book.alike(0, 99), ClauseBook.BAD);
        ClauseBook tower = tower(3, 9, 20);
        tower.clause(12, 6, 20, 0);
        Check.due("much at the last spot alone", tower.alike(21, 1), ClauseBook.MUCH);
        Check.due("much, of either", tower.alike(1, 21), ClauseBook.MUCH);
        Check.due("unlike ends do not save it", tower.alike(tower.clause(8, 2, 0, 0), 21), ClauseBook.MUCH);
        tower.start(-1, 1, 1);
        Check.due("nowhere much", tower.alike(21, 0), 1);
    }

    private static void promise17Unlike() {
        ClauseBook book = small();
        Check.due("alike", book.unlike(2, 2), ClauseBook.NONE);
        Check.due("at once", book.unlike(0, 2), 0);
        Check.due("behind day 2", book.unlike(0, 3), 30);
        int where = book.clause(12, 19, 1, 0);
        Check.due("10 * 3 + 3", book.unlike(where, 0), 33);
        int until = book.clause(8, 2, 1, 0);
        Check.due("ends do not matter", book.unlike(1, until), ClauseBook.NONE);
        Check.due("x", book.unlike(-1, 0), ClauseBook.BAD);
        Check.due("y", book.unlike(0, until + 1), ClauseBook.BAD);
        ClauseBook tower = tower(3, 9, 20);
        tower.clause(12, 1, 20, 0);
        Check.due("it is ahead of what is much", tower.unlike(21, 1), 0);
        Check.due("it is behind what is much", tower.unlike(21, 0), ClauseBook.MUCH);
        Check.due("much itself", tower.unlike(20, 0), ClauseBook.MUCH);
    }

    private static void promise18Most() {
        ClauseBook book = small();
        Check.due("up is more", book.most(2, 6), 6);
        int given = book.clause(2, 0, 2, 0);
        Check.due("down is more", book.most(given, 6), 0);
        Check.due("of like ones the least", book.most(0, 6), 0);
        int middle = book.clause(12, 19, 1, 2);
        Check.due("the last below 19", book.most(middle, 3), 2);
        Check.due("behind the end", book.most(4, 3), 0);
        Check.due("x", book.most(-1, 0), ClauseBook.BAD);
        Check.due("day", book.most(0, 7), ClauseBook.BAD);
        Check.due("day", book.most(0, -1), ClauseBook.BAD);
        ClauseBook tower = tower(3, 9, 20);
        tower.clause(12, 2, 20, 0);
        Check.due("much at one spot", tower.most(21, 2), ClauseBook.MUCH);
        Check.due("much on another day", tower.most(21, 1), 0);
        tower.swap(21, 0, 20);
        Check.due("much at the lowest spot", tower.most(21, 2), ClauseBook.MUCH);
        ClauseBook second = tower(3, 5, 1);
        second.clause(12, 1, 0, 1);
        second.clause(12, -1, 2, 0);
        Check.due("the spot in the middle", second.most(3, 2), 1);
        second.clause(3, 3, 0, 0);
        int three = second.clause(12, 1, 4, 3);
        second.swap(3, 1, 0);
        Check.due("1, 5, 3", second.most(three, 2), 1);
        Check.due("the only spot", second.most(1, 0), 0);
    }
}
