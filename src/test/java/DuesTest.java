/** Promises 19 to 22: what falls due along a path, what is left of it, and into a sheet. */
public final class DuesTest {
    private static final long NO_BAD = ClauseBook.NO + ClauseBook.BAD;
    private static final long NO_MUCH = ClauseBook.NO + ClauseBook.MUCH;

    public static void main(String[] args) {
        promise19Due();
        promise19Much();
        promise19TooManyClauses();
        promise20DueDays();
        promise21Failed();
        promise21Much();
        promise21TogetherMuch();
        promise22Dues();
        promise22Refused();
        Check.end();
    }

    /** What falls due on each day must be as told. */
    private static void falls(String what, ClauseBook book, int x, int day, int path, long... want) {
        for (int on = 0; on < 7; on++) Check.due(what + ", day " + on, book.due(x, day, path, on), want[on]);
    }

    /** 0 ONE, 1 PRICED ONE, 2 UNTIL 2 PRICED, 3 UNTIL 4 ONE; prices 10, up 3, down 2. */
    private static ClauseBook small() {
        ClauseBook book = new ClauseBook();
        book.start(10, 3, 2);
        book.clause(1, 0, 0, 0);
        book.clause(4, 0, 0, 0);
        book.clause(8, 2, 1, 0);
        book.clause(8, 4, 0, 0);
        return book;
    }

    private static void promise19Due() {
        ClauseBook book = small();
        falls("ONE", book, 0, 3, 0, 0, 0, 0, 1, 0, 0, 0);
        falls("PRICED, up, down, up", book, 1, 3, 5, 0, 0, 0, 14, 0, 0, 0);
        falls("UNTIL", book, 2, 2, 0, 0, 0, 6, 0, 0, 0, 0);
        falls("UNTIL, behind it", book, 2, 3, 0, 0, 0, 0, 0, 0, 0, 0);
        int late = book.clause(10, 0, 2, 0);
        falls("LATE", book, late, 0, 1, 0, 0, 11, 0, 0, 0, 0);
        int given = book.clause(2, 0, late, 0);
        int scaled = book.clause(3, 5, given, 0);
        falls("SCALED GIVEN LATE", book, scaled, 1, 3, 0, 0, -80, 0, 0, 0, 0);
        int both = book.clause(5, 0, scaled, 1);
        falls("BOTH", book, both, 1, 3, 0, 13, -80, 0, 0, 0, 0);
        int better = book.clause(6, 0, both, 0);
        falls("BETTER: -5 * the mean and 13, or 1", book, better, 1, 3, 0, 1, 0, 0, 0, 0, 0);
        int worse = book.clause(7, 0, both, 0);
        falls("WORSE", book, worse, 1, 3, 0, 13, -80, 0, 0, 0, 0);
        int then = book.clause(9, 0, 2, 3);
        falls("THEN, c", book, then, 2, 0, 0, 0, 6, 0, 0, 0, 0);
        falls("THEN, d", book, then, 3, 0, 0, 0, 0, 1, 0, 0, 0);
        falls("THEN, neither", book, then, 5, 0, 0, 0, 0, 0, 0, 0, 0);
        int where = book.clause(12, 13, 1, 2);
        falls("WHERE, c", book, where, 1, 1, 0, 13, 0, 0, 0, 0, 0);
        falls("WHERE, d", book, where, 1, 0, 0, 8, 0, 0, 0, 0, 0);
        falls("WHERE, d that can't be had", book, where, 3, 0, 0, 0, 0, 0, 0, 0, 0);
        book.odds(2, 3);
        book.wait(8, 9);
        int free = book.clause(11, 0, 2, 0);
        falls("FREE, taken on day 1", book, free, 0, 1, 0, 13, 0, 0, 0, 0, 0);
        falls("FREE, taken on day 2", book, free, 0, 2, 0, 0, 11, 0, 0, 0, 0);
        Check.due("x", book.due(-1, 0, 0, 0), NO_BAD);
        Check.due("day", book.due(0, 7, 0, 0), NO_BAD);
        Check.due("path", book.due(0, 0, 64, 0), NO_BAD);
        Check.due("on", book.due(0, 0, 0, 7), NO_BAD);
        Check.due("on", book.due(0, 0, 0, -1), NO_BAD);
    }

    private static ClauseBook tower(int n, int times) {
        ClauseBook book = new ClauseBook();
        book.clause(1, 0, 0, 0);
        for (int i = 0; i < times; i++) book.clause(3, n, i, 0);
        return book;
    }

    private static void promise19Much() {
        ClauseBook book = tower(-8, 21);
        falls("-2 to the 63rd", book, 21, 0, 0, Long.MIN_VALUE, 0, 0, 0, 0, 0, 0);
        int given = book.clause(2, 0, 21, 0);
        Check.due("GIVEN: -1, then on to 2 to the 63rd", book.due(given, 0, 0, 0), NO_MUCH);
        book.swap(21, 20, 0);
        int both = book.clause(5, 0, 21, 21);
        Check.due("a sum", book.due(both, 0, 0, 0), NO_MUCH);
        Check.due("of any day", book.due(both, 0, 0, 5), NO_MUCH);
        ClauseBook nines = tower(9, 20);
        Check.due("an m", nines.due(20, 0, 0, 0), NO_MUCH);
        nines.swap(1, 0, 0);
        nines.clause(0, 0, 0, 0);
        Check.due("nothing is none", nines.due(21, 0, 0, 0), 0);
        nines.clause(6, 0, 0, 20);
        Check.due("a choice that needs too much", nines.due(22, 0, 0, 0), NO_MUCH);
        nines.clause(3, 9, 21, 0);
        Check.due("m of nothing", nines.due(23, 0, 0, 0), 0);
        // what is added first tells: (h - h) + h is not too much, (h + h) - h is
        ClauseBook order = new ClauseBook();
        order.start(64, 0, 0);
        order.clause(1, 0, 0, 0);
        for (int i = 0; i < 10; i++) order.clause(4, 0, i, 0);
        int h = order.clause(3, 4, 10, 0);
        Check.due("h", order.due(h, 0, 0, 0), 1L << 62);
        int minus = order.clause(2, 0, h, 0);
        int inner = order.clause(5, 0, h, minus);
        int outer = order.clause(5, 0, inner, h);
        Check.due("(h - h) + h", order.due(outer, 0, 0, 0), 1L << 62);
        order.swap(inner, h, h);
        order.swap(outer, inner, minus);
        Check.due("(h + h) - h", order.due(outer, 0, 0, 0), NO_MUCH);
        order.swap(outer, minus, inner);
        Check.due("-h + (h + h)", order.due(outer, 0, 0, 0), 1L << 62);
        ClauseBook twice = tower(8, 20);
        twice.clause(3, 4, 20, 0);
        twice.clause(5, 0, 21, 21);
        twice.clause(12, 0, 22, 0);
        Check.due("h + h", twice.due(22, 0, 0, 0), NO_MUCH);
        Check.due("h + h, where the price is so", twice.due(23, 0, 0, 0), NO_MUCH);
        twice.start(-1, 0, 0);
        Check.due("where it is not", twice.due(23, 0, 0, 0), 1);
        ClauseBook free = tower(9, 20);
        free.clause(12, 1, 20, 0);
        free.clause(11, 0, 21, 0);
        Check.due("a day to take it that needs too much", free.due(22, 0, 0, 0), NO_MUCH);
        Check.due("a day to take it that does not", free.due(22, 6, 0, 6), 1);
    }

    private static void promise19TooManyClauses() {
        ClauseBook book = new ClauseBook();
        book.clause(1, 0, 0, 0);
        for (int i = 0; i < 9; i++) book.clause(5, 0, i, i);
        // 512 ONEs in clause 9, 256 in 8, 128 in 7 ..: 1000 ONEs, and 999 times BOTH, are 1999
        int last = 9;
        for (int part : new int[] {8, 7, 6, 5, 3}) last = book.clause(5, 0, last, part);
        Check.due("made of", book.clauseOf(last, 5), 1999);
        last = book.clause(2, 0, last, 0);
        Check.due("made of", book.clauseOf(last, 5), 2000);
        Check.due("2000 are not too many", book.due(last, 0, 0, 0), -1000);
        last = book.clause(8, 2, last, 0);
        Check.due("2001 are", book.due(last, 0, 0, 0), NO_MUCH);
        Check.due("2001 are, behind the end", book.due(last, 3, 0, 0), NO_MUCH);
        Check.due("2001 are", book.dueDays(last, 0, 0), ClauseBook.MUCH);
        Check.due("2001 are", book.failed(last, 0, 0, 0, 0), NO_MUCH);
        book.sheet(0, 1, 7);
        Check.due("2001 are", book.dues(last, 0, 0, 0), ClauseBook.MUCH);
        Check.due("its value is told", book.value(last, 0, 0, 0), -1000);
    }

    private static void promise20DueDays() {
        ClauseBook book = small();
        Check.due("ONE", book.dueDays(0, 4, 0), 16);
        int late = book.clause(10, 0, 2, 0);
        int both = book.clause(5, 0, late, 0);
        Check.due("two days", book.dueDays(both, 0, 0), 5);
        int nil = book.clause(3, 0, both, 0);
        Check.due("0 is added, too", book.dueDays(nil, 1, 0), 6);
        int none = book.clause(0, 0, 0, 0);
        Check.due("nothing", book.dueDays(none, 0, 0), 0);
        Check.due("behind the end", book.dueDays(late, 3, 0), 0);
        Check.due("x", book.dueDays(none + 1, 0, 0), ClauseBook.BAD);
        Check.due("day", book.dueDays(0, -1, 0), ClauseBook.BAD);
        Check.due("path", book.dueDays(0, 0, -1), ClauseBook.BAD);
        Check.due("much", tower(9, 20).dueDays(20, 0, 0), ClauseBook.MUCH);
    }

    private static void promise21Failed() {
        ClauseBook book = small();
        int late = book.clause(10, 0, 2, 0);
        int later = book.clause(10, 0, 3, 0);
        int seven = book.clause(3, 7, later, 0);
        int both = book.clause(5, 0, late, seven);
        int all = book.clause(5, 0, both, 0);
        falls("1, then 11, then 7", book, all, 0, 1, 1, 0, 11, 0, 7, 0, 0);
        Check.due("nothing fails", book.failed(all, 0, 1, 0, 9), 19);
        Check.due("all fails", book.failed(all, 0, 1, 0, 0), 0);
        Check.due("19 * 4 / 9, cut", book.failed(all, 0, 1, 0, 4), 8);
        Check.due("from day 1 on, 1 and 18 * 4 / 9", book.failed(all, 0, 1, 1, 4), 9);
        Check.due("from day 2 on", book.failed(all, 0, 1, 2, 4), 9);
        Check.due("from day 3 on, 12 and 7 * 4 / 9", book.failed(all, 0, 1, 3, 4), 15);
        Check.due("from day 5 on", book.failed(all, 0, 1, 5, 0), 19);
        int given = book.clause(2, 0, all, 0);
        Check.due("-19 * 4 / 9, cut", book.failed(given, 0, 1, 0, 4), -8);
        Check.due("part", book.failed(all, 0, 0, 0, 10), NO_BAD);
        Check.due("part", book.failed(all, 0, 0, 0, -1), NO_BAD);
        Check.due("on", book.failed(all, 0, 0, 7, 0), NO_BAD);
        Check.due("day", book.failed(all, 7, 0, 0, 0), NO_BAD);
        Check.due("path", book.failed(all, 0, 64, 0, 0), NO_BAD);
        Check.due("x", book.failed(given + 1, 0, 0, 0, 0), NO_BAD);
    }

    private static void promise21Much() {
        // 2 to the 60th, twice
        ClauseBook book = tower(8, 20);
        int huge = book.clause(3, 7, 20, 0);
        int until = book.clause(8, 3, huge, 0);
        int late = book.clause(10, 0, until, 0);
        Check.due("7 * 2 to the 60th", book.due(late, 0, 0, 3), 7L << 60);
        Check.due("times 1", book.failed(late, 0, 0, 0, 1), (7L << 60) / 9);
        Check.due("times 2 is too much", book.failed(late, 0, 0, 0, 2), NO_MUCH);
        Check.due("times 0", book.failed(late, 0, 0, 0, 0), 0);
        Check.due("ahead of it", book.failed(late, 0, 0, 4, 9), 7L << 60);
        ClauseBook sums = tower(8, 20);
        sums.swap(20, 19, 0);
        int more = sums.clause(3, 7, 20, 0);
        int end = sums.clause(10, 0, more, 0);
        int both = sums.clause(5, 0, more, end);
        Check.due("each day is not too much", sums.due(both, 0, 0, 0), 7L << 60);
        Check.due("each day is not too much", sums.due(both, 0, 0, 6), 7L << 60);
        Check.due("the sum behind is", sums.failed(both, 0, 0, 0, 0), NO_MUCH);
        Check.due("the sum of both is not", sums.failed(both, 0, 0, 1, 1), (7L << 60) + (7L << 60) / 9);
        sums.swap(more, 19, 0);
        Check.due("less", sums.failed(both, 0, 0, 1, 9), 2 * (7L << 57));
    }

    private static void promise21TogetherMuch() {
        ClauseBook book = tower(-8, 21);
        int late = book.clause(10, 0, 1, 0);
        int both = book.clause(5, 0, 21, late);
        falls("-2 to the 63rd, then -8", book, both, 0, 0, Long.MIN_VALUE, 0, 0, 0, 0, 0, -8);
        Check.due("together too much", book.failed(both, 0, 0, 1, 9), NO_MUCH);
        Check.due("-8 * 1 / 9 is cut", book.failed(both, 0, 0, 1, 1), Long.MIN_VALUE);
        Check.due("-8 * 2 / 9 is -1", book.failed(both, 0, 0, 6, 2), NO_MUCH);
        Check.due("all behind is too much", book.failed(both, 0, 0, 0, 0), NO_MUCH);
        book.swap(late, 2, 0);
        Check.due("64 behind", book.failed(both, 0, 0, 6, 9), Long.MIN_VALUE + 64);
        Check.due("added day by day", book.failed(both, 0, 0, 0, 1), (Long.MIN_VALUE + 64) / 9);
    }

    private static void promise22Dues() {
        ClauseBook book = small();
        int late = book.clause(10, 0, 2, 0);
        int both = book.clause(5, 0, late, 0);
        long[][] want = {{1, 0, 11}, {1, 0, 11},
            {Float.floatToIntBits(1f), 0, Float.floatToIntBits(11f)}, {Double.doubleToLongBits(1), 0, Double.doubleToLongBits(11)}};
        for (int sort = 0; sort < 4; sort++) {
            book.sheet(sort, sort, 8);
            for (int i = 0; i < 8; i++) book.cell(sort, i, 99);
            Check.due("dues", book.dues(both, 0, 1, sort), 7);
            for (int i = 0; i < 7; i++) Check.due("place " + i + " of sort " + sort, book.read(sort, i, 0), i < 3 ? want[sort][i] : 0);
            Check.due("place 7 stays", book.read(sort, 7, 2), 99);
        }
    }

    private static void promise22Refused() {
        ClauseBook book = tower(9, 20);
        int until = book.clause(8, 3, 11, 0);
        int late = book.clause(10, 0, until, 0);
        int both = book.clause(5, 0, 1, late);
        Check.due("missing", book.dues(both, 0, 0, 0), ClauseBook.NOTHING);
        Check.due("missing goes ahead of much", book.dues(20, 0, 0, 0), ClauseBook.NOTHING);
        Check.due("sheet", book.dues(both, 0, 0, 4), ClauseBook.BAD);
        Check.due("sheet", book.dues(both, 0, 0, -1), ClauseBook.BAD);
        Check.due("x", book.dues(24, 0, 0, 0), ClauseBook.BAD);
        Check.due("day", book.dues(0, 7, 0, 0), ClauseBook.BAD);
        Check.due("path", book.dues(0, 0, 64, 0), ClauseBook.BAD);
        book.sheet(0, 0, 6);
        Check.due("DUES are much, ahead of the place", book.dues(20, 0, 0, 0), ClauseBook.MUCH);
        Check.due("six places", book.dues(both, 0, 0, 0), ClauseBook.PLACE);
        Check.due("nothing came", book.read(0, 0, 0), 0);
        book.sheet(0, 0, 7);
        for (int i = 0; i < 7; i++) book.cell(0, i, -5);
        Check.due("9 to the 11th is no int", book.dues(both, 0, 0, 0), ClauseBook.MUCH);
        Check.due("what stands ahead came", book.read(0, 0, 0), 9);
        Check.due("what stands ahead came", book.read(0, 2, 0), 0);
        Check.due("it did not", book.read(0, 3, 0), -5);
        Check.due("nor what is behind", book.read(0, 6, 0), -5);
        book.sheet(1, 1, 7);
        Check.due("as a long", book.dues(both, 0, 0, 1), 7);
        Check.due("as a long", book.read(1, 3, 0), 31381059609L);
        book.sheet(2, 2, 7);
        Check.due("as a float", book.dues(both, 0, 0, 2), 7);
        Check.due("as a float", book.read(2, 3, 0), Float.floatToIntBits((float) 31381059609L));
    }
}
