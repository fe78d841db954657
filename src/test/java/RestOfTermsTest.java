/**
 * The sentences of 'Terms' from DUES on that name a boundary, and those of the promises that name a cut, a cast or a
 * remainder: a method each, with the sentence ahead of it.
 */
public final class RestOfTermsTest {
    private static final int NONE = -1, BAD = -2, STATE = -3, FULL = -4, MUCH = -5, NOTHING = -11, PLACE = -12, KIND = -13;
    private static final long NO_MUCH = -4611686018427387909L;
    private static final int ONE = 1, GIVEN = 2, SCALED = 3, PRICED = 4, BOTH = 5, BETTER = 6, UNTIL = 8, LATE = 10, FREE = 11, WHERE = 12;
    private static final long HUGE = 1L << 60;

    public static void main(String[] args) {
        duesOfNone();
        duesBehindTheEnd();
        duesAlongAPath();
        duesTakenAtOnce();
        duesWhenItIsTakenIsMuch();
        duesMNone64Bits();
        duesMOfNothing();
        duesSumNone64Bits();
        sumsOfAllBits();
        duesAddedInOrder();
        duesOf2000Clauses();
        failedSumsAndProduct();
        failedIsCut();
        alikeEnds();
        alikeAtAllSpots();
        unlikeInOrder();
        mostOfLikeOnes();
        tape120();
        textWordsAndBlanks();
        textNumbers();
        textNumbersOfTheirKind();
        textNoRoomAnyMore();
        textNoRoomCounted();
        textAnotherByte();
        textAnotherByteForANumber();
        textBehindTheClause();
        textEndsTooEarly();
        textNothingComes();
        bags12();
        bagsHoldNumbersOfNone();
        pourAsLongAsThereIsRoom();
        sumHasJustRoom();
        sheets30();
        castsOfCells();
        castsOfReads();
        remaindersOfReads();
        halvesOfTheirSort();
        copiesThatOverlap();
        handsAtTheirEdges();
        imageKeeps();
        valueAsAtItsEdges();
        countsOfNone();
        Check.end();
    }

    private static ClauseBook huge() {
        ClauseBook book = new ClauseBook();
        book.start(64, 0, 0);
        book.clause(ONE, 0, 0, 0);
        for (int i = 0; i < 10; i++) book.clause(PRICED, 0, i, 0);
        return book;
    }

    /** "NOTHING .. none"; "On which DAYS something was added (bits; also 0)" */
    private static void duesOfNone() {
        ClauseBook book = new ClauseBook();
        book.clause(0, 0, 0, 0);
        book.clause(ONE, 0, 0, 0);
        Check.due("NOTHING", book.dueDays(0, 6, 0), 0);
        for (int on = 0; on <= 6; on++) Check.due("NOTHING on DAY " + on, book.due(0, 0, 0, on), 0);
        int zero = book.clause(SCALED, 0, 1, 0);
        Check.due("0 was added on DAY 0", book.dueDays(zero, 0, 0), 1);
        Check.due("0 was added on DAY 6", book.dueDays(zero, 6, 0), 64);
        Check.due("0", book.due(zero, 6, 0, 6), 0);
        int back = book.clause(BOTH, 0, 1, book.clause(GIVEN, 0, 1, 0));
        Check.due("1 and -1 were added", book.dueDays(back, 5, 0), 32);
        Check.due("together 0", book.due(back, 5, 0, 5), 0);
        book.start(0, 0, 0);
        Check.due("PRICE 0", book.dueDays(book.clause(PRICED, 0, 1, 0), 2, 0), 4);
    }

    /** "any behind its END, none" */
    private static void duesBehindTheEnd() {
        ClauseBook book = new ClauseBook();
        book.clause(ONE, 0, 0, 0);
        int soon = book.clause(UNTIL, 3, 0, 0);
        int both = book.clause(BOTH, 0, soon, 0);
        Check.due("on its END, both", book.due(both, 3, 0, 3), 2);
        Check.due("behind it, one", book.due(both, 4, 0, 4), 1);
        int[] kinds = {GIVEN, SCALED, PRICED, UNTIL, LATE, FREE};
        for (int kind : kinds) {
            int x = book.clause(kind, kind == UNTIL ? 6 : 0, soon, 0);
            Check.due("KIND " + kind + " on its END", book.dueDays(x, 3, 0), 8);
            Check.due("KIND " + kind + " behind it", book.dueDays(x, 4, 0), 0);
            Check.due("KIND " + kind + " behind it, 0", book.due(x, 4, 0, 4), 0);
        }
    }

    /** "BETTER, WORSE: those of the one that is CHOSEN there .. THEN, WHERE: those of the one of which VALUE is told": at the PATH's own SPOT */
    private static void duesAlongAPath() {
        ClauseBook book = new ClauseBook();
        book.clause(ONE, 0, 0, 0);
        book.clause(SCALED, 2, 0, 0);
        int late = book.clause(LATE, 0, 1, 0);
        int where = book.clause(WHERE, 1, 0, late);
        int priced = book.clause(PRICED, 0, 0, 0);
        int better = book.clause(BETTER, 0, priced, 0);
        book.sheet(0, 1, 7);
        int[][] paths = {{0, 64, 2}, {1, 2, 1}, {2, 64, 2}, {3, 2, 1}, {62, 64, 2}, {63, 2, 1}};
        for (int[] p : paths) {
            String path = "path " + p[0];
            int on = p[1] == 64 ? 6 : 1;
            Check.due(path + ", dueDays", book.dueDays(where, 1, p[0]), p[1]);
            Check.due(path + ", due", book.due(where, 1, p[0], on), p[2]);
            Check.due(path + ", failed", book.failed(where, 1, p[0], on, 9), p[2]);
            Check.due(path + ", ahead of DAY 2", book.failed(where, 1, p[0], 2, 0), on == 6 ? 0 : 1);
            Check.due(path + ", dues", book.dues(where, 1, p[0], 0), 7);
            Check.due(path + ", dues", book.read(0, on, 0), p[2]);
            Check.due(path + ", dues, not then", book.read(0, 7 - on, 0), 0);
        }
        // prices on DAY 2: -2, 0, 2
        int[] spots = {1, 1, 1, 2, 1, 1, 1, 2};
        for (int path = 0; path < 8; path++) Check.due("BETTER on DAY 2, path " + path, book.due(better, 2, path, 2), spots[path]);
        for (int path = 0; path < 64; path++) Check.due("PRICED on DAY 6, path " + path, book.due(priced, 6, path, 6), 2 * Integer.bitCount(path) - 6);
    }

    /** "FREE: those of c, had as it is TAKEN": on the very DAY on which it is had, or later */
    private static void duesTakenAtOnce() {
        ClauseBook book = new ClauseBook();
        book.clause(ONE, 0, 0, 0);
        book.clause(PRICED, 0, 0, 0);
        int free = book.clause(FREE, 0, 1, 0);
        book.start(50, 1, 1);
        book.wait(1, 9);
        for (int day = 0; day <= 6; day++) {
            Check.due("at once, DAY " + day, book.dueDays(free, day, 63), 1 << day);
            Check.due("at once, DAY " + day, book.due(free, day, 63, day), 50 + day);
        }
        // a PRICE of 0 or less is not taken as long as it may go up; 1 is more than 1 of 9 of what it may become
        book.start(-2, 1, 0);
        Check.due("PRICE is 0 from DAY 2 on: on its END", book.dueDays(free, 0, 3), 64);
        Check.due("going up on and on: PRICE is 1 on DAY 3", book.dueDays(free, 0, 63), 8);
        Check.due("1", book.due(free, 0, 63, 3), 1);
        Check.due("had on DAY 4", book.due(free, 4, 63, 4), 2);
    }

    /** "is .. MUCH" of a DAY on which it is TAKEN: what falls due would not be */
    private static void duesWhenItIsTakenIsMuch() {
        ClauseBook book = Make.much();
        // DAY 0: 58; 11 is too much where PRICE is 64, on DAY 6 at SPOT 6 alone
        book.start(58, 1, 0);
        int where = book.clause(WHERE, 64, 11, 0);
        int free = book.clause(FREE, 0, where, 0);
        Check.due("it may come to it", book.dueDays(free, 0, 0), MUCH);
        Check.due("it may come to it", book.due(free, 5, 31, 5), NO_MUCH);
        Check.due("it can't", book.dueDays(free, 5, 30), 32);
        Check.due("it has not", book.dueDays(free, 6, 62), 64);
        Check.due("it has", book.dueDays(free, 6, 63), MUCH);
    }

    /** "is an m .. none of 64 bits: MUCH" */
    private static void duesMNone64Bits() {
        ClauseBook book = huge();
        int seven = book.clause(SCALED, 7, 10, 0);
        int eight = book.clause(SCALED, 8, 10, 0);
        int least = book.clause(SCALED, -8, 10, 0);
        int more = book.clause(SCALED, -9, 10, 0);
        Check.due("7 times 2 to the 60th", book.due(seven, 0, 0, 0), 7 * HUGE);
        Check.due("8 times", book.due(eight, 0, 0, 0), NO_MUCH);
        Check.due("-8 times", book.due(least, 0, 0, 0), Long.MIN_VALUE);
        Check.due("-9 times", book.due(more, 0, 0, 0), NO_MUCH);
        Check.due("GIVEN 8 times, from without: -8 times", book.due(book.clause(GIVEN, 0, eight, 0), 0, 0, 0), Long.MIN_VALUE);
        Check.due("but its VALUE needs 8 times", book.value(15, 0, 0, 0), NO_MUCH);
        Check.due("GIVEN -8 times", book.due(book.clause(GIVEN, 0, least, 0), 0, 0, 0), NO_MUCH);
        Check.due("0 times 8 times", book.due(book.clause(SCALED, 0, eight, 0), 0, 0, 0), 0);
        Check.due("but its VALUE needs 8 times", book.value(17, 0, 0, 0), NO_MUCH);
        Check.due("PRICED: 64 times 2 to the 60th", book.due(book.clause(PRICED, 0, 10, 0), 0, 0, 0), NO_MUCH);
    }

    /** An m is made even if nothing falls due of it: "is an m or a sum none of 64 bits: MUCH" */
    private static void duesMOfNothing() {
        ClauseBook book = new ClauseBook();
        book.start(64, 0, 0);
        book.clause(0, 0, 0, 0);
        for (int i = 0; i < 11; i++) book.clause(PRICED, 0, i, 0);
        Check.due("2 to the 60th", book.dueDays(10, 0, 0), 0);
        Check.due("2 to the 66th", book.dueDays(11, 0, 0), MUCH);
        book.start(0, 0, 0);
        Check.due("0", book.dueDays(11, 0, 0), 0);
    }

    /** "is .. a sum none of 64 bits: MUCH" */
    private static void duesSumNone64Bits() {
        ClauseBook book = huge();
        int half = book.clause(SCALED, 4, 10, 0);
        int less = book.clause(SCALED, -4, 10, 0);
        int owed = book.clause(GIVEN, 0, 0, 0);
        int two = book.clause(BOTH, 0, half, half);
        int least = book.clause(BOTH, 0, less, less);
        Check.due("2 to the 62nd, twice", book.due(two, 0, 0, 0), NO_MUCH);
        Check.due("on another DAY", book.due(two, 0, 0, 3), NO_MUCH);
        Check.due("-2 to the 62nd, twice", book.due(least, 0, 0, 0), Long.MIN_VALUE);
        Check.due("less 1", book.due(book.clause(BOTH, 0, least, owed), 0, 0, 0), NO_MUCH);
        int most = book.clause(BOTH, 0, book.clause(BOTH, 0, half, owed), half);
        Check.due("the most", book.due(most, 0, 0, 0), Long.MAX_VALUE);
        Check.due("and 1", book.due(book.clause(BOTH, 0, most, 0), 0, 0, 0), NO_MUCH);
        int late = book.clause(LATE, 0, half, 0);
        int apart = book.clause(BOTH, 0, half, late);
        Check.due("on two DAYS: DAY 0", book.due(apart, 0, 0, 0), 4 * HUGE);
        Check.due("on two DAYS: DAY 6", book.due(apart, 0, 0, 6), 4 * HUGE);
        Check.due("on one: had on DAY 6", book.due(apart, 6, 0, 6), NO_MUCH);
    }

    /** 0x5555555555555555 and itself are just more than 64 bits hold: all bits turn over. */
    private static void sumsOfAllBits() {
        ClauseBook book = new ClauseBook();
        book.start(64, 0, 0);
        book.clause(ONE, 0, 0, 0);
        int[][] made = {{5}, {4, 4}, {64, 4}, {64, 64, 4, 4}, {64, 64, 64, 64, 64, 4}};
        int last = 0;
        for (int[] times : made) {
            int part = last;
            for (int n : times) last = book.clause(n == 64 ? PRICED : SCALED, n == 64 ? 0 : n, last, 0);
            if (part > 0) last = book.clause(BOTH, 0, last, part);
        }
        Check.due("its VALUE", book.value(last, 0, 0, 0), 0x5555555555555555L);
        Check.due("it falls due", book.due(last, 0, 0, 0), 0x5555555555555555L);
        int both = book.clause(BOTH, 0, last, last);
        Check.due("VALUE of both", book.value(both, 0, 0, 0), NO_MUCH);
        Check.due("both fall due", book.due(both, 0, 0, 0), NO_MUCH);
    }

    /** "All that falls due on a DAY is added in that order, from 0 on" */
    private static void duesAddedInOrder() {
        ClauseBook book = huge();
        int half = book.clause(SCALED, 4, 10, 0);
        int less = book.clause(GIVEN, 0, half, 0);
        int inner = book.clause(BOTH, 0, half, less);
        int outer = book.clause(BOTH, 0, inner, half);
        Check.due("h - h + h", book.due(outer, 0, 0, 0), 4 * HUGE);
        book.swap(inner, half, half);
        book.swap(outer, inner, less);
        Check.due("h + h - h", book.due(outer, 0, 0, 0), NO_MUCH);
        book.swap(outer, less, inner);
        Check.due("-h + h + h", book.due(outer, 0, 0, 0), 4 * HUGE);
        Check.due("but its VALUE needs h + h", book.value(outer, 0, 0, 0), NO_MUCH);
    }

    /** "so too, if it is made of more than 2000 CLAUSES (as clauseOf() counts them)" */
    private static void duesOf2000Clauses() {
        ClauseBook book = new ClauseBook();
        book.clause(ONE, 0, 0, 0);
        for (int i = 0; i < 9; i++) book.clause(BOTH, 0, i, i);
        int last = 9;
        for (int part : new int[] {8, 7, 6, 5, 3}) last = book.clause(BOTH, 0, last, part);
        int just = book.clause(UNTIL, 2, last, 0);
        int more = book.clause(GIVEN, 0, just, 0);
        book.sheet(0, 1, 7);
        Check.due("made of 2000", book.clauseOf(just, 5), 2000);
        Check.due("due", book.due(just, 2, 0, 2), 1000);
        Check.due("dueDays", book.dueDays(just, 2, 0), 4);
        Check.due("failed", book.failed(just, 2, 0, 0, 9), 1000);
        Check.due("dues", book.dues(just, 2, 0, 0), 7);
        Check.due("made of 2001", book.clauseOf(more, 5), 2001);
        Check.due("due", book.due(more, 2, 0, 2), NO_MUCH);
        Check.due("dueDays", book.dueDays(more, 2, 0), MUCH);
        Check.due("failed", book.failed(more, 2, 0, 0, 9), NO_MUCH);
        Check.due("dues", book.dues(more, 2, 0, 0), MUCH);
        Check.due("behind its END", book.dueDays(more, 3, 0), MUCH);
        Check.due("its VALUE is told", book.value(more, 2, 0, 0), -1000);
        Check.due("what names it alone is too much, too", book.dueDays(book.clause(SCALED, 0, more, 0), 0, 0), MUCH);
    }

    /** "MUCH: DUES, or one of these sums, that product" */
    private static void failedSumsAndProduct() {
        ClauseBook book = huge();
        int half = book.clause(SCALED, 4, 10, 0);
        int less = book.clause(SCALED, -4, 10, 0);
        int late = book.clause(LATE, 0, half, 0);
        int apart = book.clause(BOTH, 0, half, late);
        Check.due("ahead: h; behind: h, once", book.failed(apart, 0, 0, 1, 1), 4 * HUGE + 4 * HUGE / 9);
        Check.due("the product", book.failed(apart, 0, 0, 1, 2), NO_MUCH);
        Check.due("the sum of what is behind", book.failed(apart, 0, 0, 0, 0), NO_MUCH);
        book.swap(half, 9, 0);
        Check.due("4 times 2 to the 54th is not too much", book.failed(apart, 0, 0, 1, 9), 8L << 54);
        int owedLate = book.clause(LATE, 0, less, 0);
        int owed = book.clause(BOTH, 0, less, owedLate);
        Check.due("-h and -h, behind", book.failed(owed, 0, 0, 0, 0), 0);
        Check.due("-h and -h, behind, once", book.failed(owed, 0, 0, 0, 1), Long.MIN_VALUE / 9);
        Check.due("-h and -h, behind, twice", book.failed(owed, 0, 0, 0, 2), NO_MUCH);
        // -2 to the 62nd until DAY 3, on it, and on DAY 6: three are too much
        int third = book.clause(LATE, 0, book.clause(UNTIL, 3, less, 0), 0);
        int three = book.clause(BOTH, 0, owed, third);
        Check.due("two ahead of DAY 6", book.failed(three, 0, 0, 6, 0), Long.MIN_VALUE);
        Check.due("two ahead, and the last one once", book.failed(three, 0, 0, 6, 1), NO_MUCH);
        Check.due("all three behind", book.failed(three, 0, 0, 0, 0), NO_MUCH);
        Check.due("one ahead, two behind", book.failed(three, 0, 0, 1, 1), -4 * HUGE + Long.MIN_VALUE / 9);
    }

    /** "part (0 .. 9) times what falls due from DAY on on, by 9 (cut)" */
    private static void failedIsCut() {
        ClauseBook book = new ClauseBook();
        book.clause(ONE, 0, 0, 0);
        for (int n = -9; n <= 9; n++) {
            int x = book.clause(SCALED, n, 0, 0);
            for (int part = 0; part <= 9; part++) {
                long want = (Math.abs(n) * part - Math.abs(n) * part % 9) / 9;
                Check.due(n + " * " + part + " by 9", book.failed(x, 2, 0, 2, part), n < 0 ? -want : want);
            }
            book.drop();
        }
        int late = book.clause(LATE, 0, book.clause(SCALED, 5, 0, 0), 0);
        int both = book.clause(BOTH, 0, late, 0);
        Check.due("on DAY 6: 1 ahead, 5 behind", book.failed(both, 0, 0, 6, 0), 1);
        Check.due("what falls due on DAY on is not ahead of it", book.failed(both, 0, 0, 0, 0), 0);
    }

    /** "TWO CLAUSES are ALIKE, if their ENDS are .." */
    private static void alikeEnds() {
        ClauseBook book = new ClauseBook();
        book.clause(0, 0, 0, 0);
        int five = book.clause(UNTIL, 5, 0, 0);
        int again = book.clause(UNTIL, 5, 0, 0);
        int six = book.clause(UNTIL, 6, 0, 0);
        Check.due("0 and 0, ENDS 5 and 6", book.alike(five, six), 0);
        Check.due("ENDS 5 and 5", book.alike(five, again), 1);
        Check.due("ENDS 6 and 6", book.alike(0, six), 1);
        Check.due("no SPOT tells it", book.unlike(five, six), NONE);
    }

    /** ".. and their VALUES at all SPOTS of all DAYS 0 .. 6" */
    private static void alikeAtAllSpots() {
        ClauseBook book = new ClauseBook();
        book.clause(ONE, 0, 0, 0);
        book.clause(0, 0, 0, 0);
        int high = book.clause(WHERE, 6, 0, 1);
        int low = book.clause(WHERE, -5, 1, 0);
        int first = book.clause(BETTER, 0, book.clause(UNTIL, 0, 0, 0), 1);
        Check.due("the last SPOT alone", book.alike(high, 1), 0);
        Check.due("it is DAY 6, SPOT 6", book.unlike(high, 1), 66);
        Check.due("the lowest SPOT of DAY 6 alone", book.alike(low, 1), 0);
        Check.due("it is DAY 6, SPOT 0", book.unlike(low, 1), 60);
        Check.due("the first SPOT alone", book.alike(first, 1), 0);
        Check.due("it is DAY 0, SPOT 0", book.unlike(1, first), 0);
    }

    /** "The first SPOT where VALUES are not alike .. MUCH: a VALUE ahead of it is (or of it)" */
    private static void unlikeInOrder() {
        ClauseBook book = Make.much();
        int none = book.clause(0, 0, 0, 0);
        // prices: 64 on DAY 0; 65, 63 on DAY 1
        book.start(64, 1, 1);
        int high = book.clause(WHERE, 65, 11, 0);
        int low = book.clause(WHERE, 64, 0, 11);
        Check.due("SPOT 0 of DAY 0 is ahead", book.unlike(high, none), 0);
        Check.due("much at SPOT 1 of DAY 1", book.unlike(high, 0), MUCH);
        int at10 = book.clause(WHERE, 64, 0, none);
        Check.due("unlike at SPOT 0 of DAY 1, much at SPOT 1", book.unlike(high, at10), 10);
        Check.due("much at SPOT 0 of DAY 1, unlike there", book.unlike(low, at10), MUCH);
        int at11 = book.clause(WHERE, 65, none, 0);
        Check.due("unlike at SPOT 1 of DAY 1, much ahead of it", book.unlike(low, at11), MUCH);
        Check.due("unlike at SPOT 1 of DAY 1", book.unlike(0, at11), 11);
    }

    /** "The SPOT of a DAY at which VALUE is most, of like ones the least" */
    private static void mostOfLikeOnes() {
        ClauseBook book = new ClauseBook();
        book.clause(ONE, 0, 0, 0);
        book.clause(0, 0, 0, 0);
        for (int day = 0; day <= 6; day++) Check.due("alike at all", book.most(0, day), 0);
        int high = book.clause(WHERE, 2, 0, 1);
        Check.due("SPOTS 4, 5, 6 of DAY 6", book.most(high, 6), 4);
        Check.due("SPOT 2 of DAY 2 alone", book.most(high, 2), 2);
        Check.due("none of DAY 1", book.most(high, 1), 0);
    }

    /** "THE TAPE (bytes, 120 at most)" */
    private static void tape120() {
        ClauseBook book = new ClauseBook();
        for (int i = 0; i < 117; i++) Check.due("byte " + i, book.feed(1, ' ' << 24), i + 1);
        Check.due("4 are too many", book.feed(4, 'o' << 24), FULL);
        Check.due("3 are not", book.feed(3, 'o' << 24 | 'n' << 16 | 'e' << 8 | 'x'), 120);
        Check.due("1 is", book.feed(1, ' ' << 24), FULL);
        Check.due("one, at its very end", book.text(), 0);
        Check.due("it is empty then", book.feed(4, 0), 4);
        Check.due("a byte 0", book.text(), -100);
        Check.due("the highest bytes of a number less than 0", book.feed(2, 0xffff0000), 2);
        Check.due("byte 255", book.text(), -100);
        Check.due("empty: it ends too early", book.text(), -100);
    }

    /** "WORDS (a .. z) .. blanks (32) between them (one at least between two WORDS ..)" */
    private static void textWordsAndBlanks() {
        ClauseBook book = new ClauseBook();
        Check.due("one blank", Make.told(book, "given one"), 1);
        Check.due("many blanks", Make.told(book, "    given     one    "), 3);
        Check.due("no blank", Make.told(book, "givenone"), -100);
        Check.due("no blank, further on", Make.told(book, "both oneone"), -105);
        Check.due("byte 96, ahead of a", Make.told(book, "given `one"), -106);
        Check.due("byte 123, behind z", Make.told(book, "given one{"), -109);
        Check.due("a WORD of a to z that is none", Make.told(book, "az"), -100);
        Check.due("no more came", book.count(0), 4);
    }

    /** "NUMBERS (digits, 99 at most in value; a - right ahead of the digits: less than 0) .. NUMBERS need none" */
    private static void textNumbers() {
        ClauseBook book = new ClauseBook();
        String[] taken = {"where99one one", "where-99one one", "where 099 one one", "where -0 one one", "where 0 one one", "where 00000000000000000000000000000000000000000099 one one"};
        int[] n = {99, -99, 99, 0, 0, 99};
        for (int i = 0; i < taken.length; i++) {
            Check.due(taken[i], Make.told(book, taken[i]), 2);
            Check.due("n", book.clauseOf(2, 1), n[i]);
            while (book.count(0) > 0) book.drop();
        }
        String[] refused = {"where100one one", "where -100 one one", "where 0100 one one", "where - 9 one one", "where --9 one one", "where -one one", "where 4294967296 one one",
            "where /9 one one", "where :9 one one", "where ,9 one one"};
        for (String text : refused) Check.due(text, Make.told(book, text), text.startsWith("where1") ? -105 : -106);
        Check.due("two NUMBERS", Make.told(book, "where 9 9 one one"), -108);
        Check.due("a - behind the digits", Make.told(book, "where 9- one one"), -107);
        Check.due("a NUMBER for a WORD", Make.told(book, "given 9 one"), -106);
        Check.due("none came", book.count(0), 0);
    }

    /** ".. that can't stand there (another .. NUMBER ..)": of SCALED -9 .. 9, of UNTIL 0 .. 6, of WHERE -99 .. 99 */
    private static void textNumbersOfTheirKind() {
        ClauseBook book = new ClauseBook();
        int[][] edges = {{-9, 9}, {0, 6}, {-99, 99}};
        String[] words = {"scaled ", "until ", "where "};
        for (int i = 0; i < 3; i++) {
            for (int side = 0; side < 2; side++) {
                int out = edges[i][side] + (side == 0 ? -1 : 1);
                Check.due(words[i] + edges[i][side], Make.told(book, words[i] + edges[i][side] + " one" + (i == 2 ? " one" : "")), i == 2 ? 2 : 1);
                while (book.count(0) > 0) book.drop();
                Check.due(words[i] + out, Make.told(book, words[i] + out + " one" + (i == 2 ? " one" : "")), -100 - words[i].length());
            }
        }
        Check.due("none came", book.count(0), 0);
    }

    /** "one for which there is no room any more" */
    private static void textNoRoomAnyMore() {
        ClauseBook book = Make.full();
        Check.due("no room for one", Make.told(book, "one"), -100);
        Check.due("no room, behind blanks", Make.told(book, "  given one"), -102);
        book.drop();
        Check.due("room for one", Make.told(book, "one"), 23);
        book.drop();
        Check.due("given needs two", Make.told(book, "given one"), -100);
        book.drop();
        Check.due("room for two", Make.told(book, "given one"), 23);
        Check.due("how many", book.count(0), 24);
    }

    /** ".. counting all that must still come" */
    private static void textNoRoomCounted() {
        ClauseBook book = Make.full();
        for (int i = 0; i < 4; i++) book.drop();
        Check.due("both needs three", Make.told(book, "both one given one"), 23);
        for (int i = 0; i < 4; i++) book.drop();
        Check.due("the second given is one too many", Make.told(book, "both given given one one"), -111);
        Check.due("the second both is", Make.told(book, "both both one one one"), -105);
        Check.due("given behind it is", Make.told(book, "both one given given one"), -115);
        Check.due("the NUMBER of it is not looked at", Make.told(book, "both given until 9 one one"), -111);
        Check.due("an earlier NUMBER is", Make.told(book, "both until 9 given one one"), -111);
        Check.due("a WORD ahead of it that can't stand there", Make.told(book, "both x given given one"), -105);
        Check.due("none came", book.count(0), 20);
    }

    /** "FAULT: .. another byte" */
    private static void textAnotherByte() {
        ClauseBook book = new ClauseBook();
        for (int one = 0; one < 256; one++) {
            boolean blank = one == 32;
            book.feed(4, 'o' << 24 | 'n' << 16 | 'e' << 8 | one);
            boolean letter = one >= 'a' && one <= 'z';
            if (blank) Check.due("a blank behind it", book.text(), 0);
            else Check.due("byte " + one + " behind it", book.text(), letter ? -100 : -103);
            if (one == 128) book = new ClauseBook();
        }
    }

    /** "NUMBERS (digits ..; a - right ahead of the digits ..)": no other byte stands for one */
    private static void textAnotherByteForANumber() {
        ClauseBook book = new ClauseBook();
        for (int one = 0; one < 256; one++) {
            if (one == ' ') continue;
            boolean digit = one >= '0' && one <= '9';
            Check.due("byte " + one, Make.told(book, "where" + (char) one + " one one"), digit ? 2 : one >= 'a' && one <= 'z' ? -100 : -105);
            if (one % 20 == 0 || digit) book = new ClauseBook();
        }
        for (int one = 0; one < 256; one++) {
            if (one == ' ') continue;
            if (one % 20 == 0) book = new ClauseBook();
            boolean digit = one >= '0' && one <= '9';
            Check.due("1 and byte " + one, Make.told(book, "until 1" + (char) one), digit || one >= 'a' && one <= 'z' ? (digit ? -106 : -107) : -107);
        }
    }

    /** "FAULT: .. what stands behind the CLAUSE" */
    private static void textBehindTheClause() {
        ClauseBook book = new ClauseBook();
        Check.due("a WORD", Make.told(book, "one one"), -104);
        Check.due("another WORD", Make.told(book, "given one x"), -110);
        Check.due("a NUMBER", Make.told(book, "one 3"), -104);
        Check.due("a NUMBER, no blank", Make.told(book, "one3"), -103);
        Check.due("a byte", Make.told(book, "one  ."), -105);
        Check.due("none came", book.count(0), 0);
        Check.due("blanks may", Make.told(book, "one     "), 0);
    }

    /** "or how many bytes there are, if it ends too early" */
    private static void textEndsTooEarly() {
        ClauseBook book = new ClauseBook();
        for (String text : new String[] {"", " ", "given", "given  ", "both one", "both one ", "scaled", "scaled ", "scaled 9", "where 9 one", "both given one given"}) {
            Check.due("'" + text + "'", Make.told(book, text), -100 - text.length());
        }
        for (int i = 0; i < 30; i++) book.feed(4, 0x20202020);
        Check.due("120 blanks", book.text(), -220);
        for (int i = 0; i < 29; i++) book.feed(4, 0x20202020);
        book.feed(3, 0x20202020);
        book.feed(1, '~' << 24);
        Check.due("119 blanks, and another byte", book.text(), -219);
        Check.due("none came", book.count(0), 0);
    }

    /** "With a FAULT nothing comes of it"; "THE TAPE, which is empty then" */
    private static void textNothingComes() {
        ClauseBook book = new ClauseBook();
        Check.due("the last WORD", Make.told(book, "both given one x"), -115);
        Check.due("none came", book.count(0), 0);
        Check.due("the tape is empty", book.feed(1, 'o' << 24), 1);
        Check.due("and what comes then is read from its begin", Make.told(book, "ne"), 0);
        Check.due("also with none", book.feed(3, 'o' << 24 | 'n' << 16 | 'e' << 8), 3);
    }

    /** "BAGS 0 .. 2 hold CLAUSES (by number), in order, 12 at most" */
    private static void bags12() {
        ClauseBook book = Make.full();
        for (int bag = 0; bag < 3; bag++) {
            for (int i = 0; i < 12; i++) Check.due("bag " + bag, book.put(bag, 23 - i), i + 1);
            Check.due("the 13th", book.put(bag, 0), FULL);
            for (int i = 0; i < 12; i++) Check.due("in order", book.bagOf(bag, i), 23 - i);
            Check.due("no more", book.bagOf(bag, 12), PLACE);
        }
        Check.due("all lie there", book.count(3), 36);
        Check.due("the last comes out", book.take(1), 12);
        Check.due("there is room again", book.put(1, 0), 12);
        for (int i = 0; i < 12; i++) book.take(0);
        Check.due("empty", book.take(0), NONE);
        Check.due("empty: place 0", book.bagOf(0, 0), PLACE);
    }

    /** "BAGS, HANDS that hold it hold a number of none then" */
    private static void bagsHoldNumbersOfNone() {
        ClauseBook book = new ClauseBook();
        book.clause(ONE, 0, 0, 0);
        Make.put(book, 0, 0, 0);
        book.hold(0, 1, 0, 0);
        Check.due("none is left", book.drop(), 0);
        Check.due("the number is", book.bagOf(0, 1), 0);
        Check.due("no CLAUSE lies there", book.count(3), 0);
        Check.due("no best", book.bagBest(0, 0, 0), NONE);
        Check.due("no sum", book.sum(0), NONE);
        Check.due("no CLAUSE in the hand", book.asClause(0, 3), NOTHING);
        Check.due("of no KIND", book.pour(0, 1, ONE), 0);
        Check.due("all: also those", book.pour(0, 1, -1), 2);
        Check.due("its number comes out", book.take(1), 0);
        Check.due("another one comes", book.clause(0, 0, 0, 0), 0);
        Check.due("it lies there", book.count(3), 1);
        Check.due("it is in the hand", book.asClause(0, 0), 0);
        Check.due("it is of its own KIND", book.pour(1, 2, ONE), 0);
        Check.due("it is of its own KIND", book.pour(1, 2, 0), 1);
    }

    /** "come, in order, from a BAG to another one, as long as there is room: how many" */
    private static void pourAsLongAsThereIsRoom() {
        ClauseBook book = Make.full();
        Make.put(book, 0, 1, 2, 3, 4, 5);
        Make.put(book, 1, 10, 10, 10, 10, 10, 10, 10, 10, 10);
        Check.due("three of five", book.pour(0, 1, ONE), 3);
        int[] full = {10, 10, 10, 10, 10, 10, 10, 10, 10, 1, 2, 3};
        for (int i = 0; i < 12; i++) Check.due("the full one at " + i, book.bagOf(1, i), full[i]);
        Check.due("left", book.bagOf(0, 0), 4);
        Check.due("left", book.bagOf(0, 1), 5);
        Check.due("no more", book.bagOf(0, 2), PLACE);
        Check.due("none any more", book.pour(0, 1, -1), 0);
        Check.due("all twelve", book.pour(1, 2, -1), 12);
        Check.due("it is empty then", book.take(1), NONE);
        Check.due("none of none", book.pour(1, 0, -1), 0);
    }

    /** "One more CLAUSE for each but the first in a BAG .. FULL. (Of one alone: that one.)" */
    private static void sumHasJustRoom() {
        ClauseBook book = new ClauseBook();
        book.clause(ONE, 0, 0, 0);
        Make.put(book, 0, 0, 0, 0, 0, 0, 0, 0, 0, 0, 0, 0, 0);
        Make.put(book, 1, 0, 0);
        Make.put(book, 2, 0);
        Check.due("1 and 11", book.sum(0), 11);
        Check.due("12 times 1", book.value(11, 0, 0, 0), 12);
        Check.due("12 and 11", book.sum(0), 22);
        Check.due("23 and 11", book.sum(0), FULL);
        Check.due("one alone", book.sum(2), 0);
        Check.due("23 and 1", book.sum(1), 23);
        Check.due("24 and 1", book.sum(1), FULL);
        Check.due("one alone of 24", book.sum(2), 0);
        Check.due("no more came", book.count(0), 24);
    }

    /** "SHEETS 0 .. 3 are rows of at most 30 numbers: of sort 0 ints, 1 longs, 2 floats, 3 doubles, or missing (-1; at first)" */
    private static void sheets30() {
        ClauseBook book = new ClauseBook();
        for (int s = 0; s < 4; s++) {
            Check.due("missing at first", book.cell(s, 0, 0), NOTHING);
            Check.due("30", book.sheet(s, s, 30), 1);
            Check.due("the last", book.cell(s, 29, 3), 1);
            Check.due("behind it", book.cell(s, 30, 3), PLACE);
            Check.due("31", book.sheet(s, s, 31), BAD);
            Check.due("it stays", book.read(s, 29, 2), 3);
            Check.due("anew, all 0", book.sheet(s, s, 30), 1);
            Check.due("all 0", book.read(s, 29, 0), 0);
            Check.due("none", book.sheet(s, s, 0), 1);
            Check.due("no place", book.read(s, 0, 0), -4611686018427387916L);
            Check.due("none of none", book.copy(s, 0, s, 0, 0), 0);
            Check.due("missing", book.sheet(s, -1, 99), 1);
            Check.due("missing", book.copy(s, 0, s, 0, 0), NOTHING);
        }
    }

    /** "Place i of a SHEET becomes v (floats, doubles by a cast)" */
    private static void castsOfCells() {
        ClauseBook book = new ClauseBook();
        for (int s = 0; s < 4; s++) book.sheet(s, s, 1);
        long[] numbers = {Long.MAX_VALUE, Long.MIN_VALUE, (1L << 24) + 1, (1L << 24) + 3, (1L << 53) + 1, (1L << 53) + 3, Long.MAX_VALUE - 512, (1L << 62) + (1L << 38) + 1};
        for (long v : numbers) {
            for (int s = 1; s < 4; s++) Check.due("cell", book.cell(s, 0, v), 1);
            Check.due("long " + v, book.read(1, 0, 0), v);
            Check.due("float " + v, book.read(2, 0, 0), Float.floatToIntBits((float) v));
            Check.due("double " + v, book.read(3, 0, 0), Double.doubleToLongBits((double) v));
        }
    }

    /** "Place i of a SHEET: .. 1 as an (int), 2 as a (long)": longs wrap around, floats and doubles stop at the most and the least */
    private static void castsOfReads() {
        ClauseBook book = new ClauseBook();
        for (int s = 1; s < 4; s++) {
            book.sheet(s, s, 3);
            book.cell(s, 0, 1L << 31);
            book.cell(s, 1, -(1L << 31) - (1L << 10));
            book.cell(s, 2, Long.MAX_VALUE);
        }
        int[][] ints = {{Integer.MIN_VALUE, Integer.MAX_VALUE - 1023, -1}, {Integer.MAX_VALUE, Integer.MIN_VALUE, Integer.MAX_VALUE}, {Integer.MAX_VALUE, Integer.MIN_VALUE, Integer.MAX_VALUE}};
        long[] longs = {1L << 31, -(1L << 31) - (1L << 10), Long.MAX_VALUE};
        for (int s = 1; s < 4; s++) {
            for (int i = 0; i < 3; i++) {
                Check.due("sort " + s + " as an int", book.read(s, i, 1), ints[s - 1][i]);
                Check.due("sort " + s + " as a long", book.read(s, i, 2), longs[i]);
            }
        }
        for (int s = 2; s < 4; s++) {
            book.cell(s, 0, -3);
            book.halve(s, 0);
            Check.due("-1.5 as an int", book.read(s, 0, 1), -1);
            Check.due("-1.5 as a long", book.read(s, 0, 2), -1);
        }
    }

    /** "3 as Double.doubleToLongBits((double) of it % 7)" */
    private static void remaindersOfReads() {
        ClauseBook book = new ClauseBook();
        for (int s = 0; s < 4; s++) book.sheet(s, s, 1);
        for (long v : new long[] {0, 6, 7, 8, -6, -7, -8, Integer.MAX_VALUE, Integer.MIN_VALUE}) {
            for (int s = 0; s < 4; s++) {
                book.cell(s, 0, v);
                double d = s == 2 ? (double) (float) v : (double) v;
                Check.due(v + " % 7, sort " + s, book.read(s, 0, 3), Double.doubleToLongBits(d % 7));
            }
        }
        Check.due("-7 % 7 is less than 0 by its sign alone", negativeSevens(book), 0x8000000000000000L);
    }

    private static long negativeSevens(ClauseBook book) {
        book.cell(1, 0, -7);
        return book.read(1, 0, 3);
    }

    /** "Place i of a SHEET becomes half of it (/ 2 of its sort)" */
    private static void halvesOfTheirSort() {
        ClauseBook book = new ClauseBook();
        for (int s = 0; s < 4; s++) book.sheet(s, s, 1);
        long[] numbers = {1, -1, 3, -3, Integer.MAX_VALUE, Integer.MIN_VALUE};
        for (long v : numbers) {
            for (int s = 0; s < 4; s++) {
                book.cell(s, 0, v);
                Check.due("halve", book.halve(s, 0), 1);
            }
            Check.due(v + " as an int", book.read(0, 0, 0), (int) v / 2);
            Check.due(v + " as a long", book.read(1, 0, 0), v / 2);
            Check.due(v + " as a float", book.read(2, 0, 0), Float.floatToIntBits((float) v / 2));
            Check.due(v + " as a double", book.read(3, 0, 0), Double.doubleToLongBits((double) v / 2));
        }
        book.cell(1, 0, Long.MIN_VALUE);
        book.halve(1, 0);
        Check.due("the least long", book.read(1, 0, 0), Long.MIN_VALUE / 2);
        book.cell(2, 0, -1);
        for (int i = 0; i < 126; i++) book.halve(2, 0);
        Check.due("the least float of full length", book.read(2, 0, 0), 0xffffffff80800000L);
        for (int i = 0; i < 23; i++) book.halve(2, 0);
        Check.due("the last float that is not 0", book.read(2, 0, 0), 0xffffffff80000001L);
        book.halve(2, 0);
        Check.due("-0.0f", book.read(2, 0, 0), 0xffffffff80000000L);
        Check.due("-0.0f % 7", book.read(2, 0, 3), 0x8000000000000000L);
        Check.due("-0.0f as a long", book.read(2, 0, 2), 0);
    }

    /** "n numbers .. come to another one (or the same), from place j on, as they were" */
    private static void copiesThatOverlap() {
        for (int sort = 0; sort < 4; sort++) {
            for (int turn = 0; turn < 2; turn++) {
                ClauseBook book = new ClauseBook();
                book.sheet(2, sort, 30);
                for (int i = 0; i < 30; i++) book.cell(2, i, i);
                Check.due("29 of 30", book.copy(2, turn, 2, 1 - turn, 29), 29);
                for (int i = 0; i < 30; i++) {
                    int want = turn == 0 ? Math.max(0, i - 1) : Math.min(29, i + 1);
                    Check.due("sort " + sort + ", turn " + turn + ", place " + i, book.read(2, i, 2), want);
                }
            }
        }
    }

    /** "A HAND holds nothing (sort 0 ..), CLAUSE v .., the FRACTION v of w in lowest terms (2): which sort it held" */
    private static void handsAtTheirEdges() {
        ClauseBook book = new ClauseBook();
        long[][] held = {{0, Long.MAX_VALUE, 0, 1}, {Long.MAX_VALUE, Long.MAX_VALUE, 1, 1}, {-Long.MAX_VALUE, Long.MAX_VALUE, -1, 1}, {Long.MAX_VALUE, 1, Long.MAX_VALUE, 1},
            {-Long.MAX_VALUE, 1, -Long.MAX_VALUE, 1}, {1, Long.MAX_VALUE, 1, Long.MAX_VALUE}, {Long.MAX_VALUE - 1, Long.MAX_VALUE, Long.MAX_VALUE - 1, Long.MAX_VALUE},
            {-(1L << 62), 1L << 62, -1, 1}, {6, 4, 3, 2}, {-6, 4, -3, 2}};
        for (int i = 0; i < held.length; i++) {
            Check.due("it held", book.hold(3, 2, held[i][0], held[i][1]), i == 0 ? 0 : 2);
            Check.due("above " + i, book.asFraction(3, 0), held[i][2]);
            Check.due("below " + i, book.asFraction(3, 1), held[i][3]);
        }
        Check.due("no CLAUSE at all, but it holds another thing", book.asClause(3, 3), KIND);
        Check.due("no CLAUSE 0", book.hold(3, 1, 0, 0), BAD);
        Check.due("it holds what it held", book.asFraction(3, 1), 2);
        book.clause(ONE, 0, 0, 0);
        Check.due("CLAUSE 0", book.hold(3, 1, 0, -1), 2);
        Check.due("it is no FRACTION any more", book.asFraction(3, 0), -4611686018427387904L + KIND);
        Check.due("nothing", book.hold(3, 0, 9, 9), 1);
        Check.due("nothing", book.asFraction(3, 0), -4611686018427387904L + NOTHING);
        Check.due("it held nothing", book.hold(3, 0, 9, 9), 0);
    }

    /** "AN IMAGE keeps START, UP, DOWN, ODDS, WAIT, CLAUSES, BAGS": no tape, no sheets, no hands */
    private static void imageKeeps() {
        ClauseBook book = new ClauseBook();
        Check.due("there is none", book.back(), STATE);
        Check.due("of an empty book", book.image(), 0);
        while (book.count(0) < 24) book.clause(ONE, 0, 0, 0);
        Make.put(book, 2, 0, 1, 2);
        book.start(9, 9, 9);
        book.odds(9, 9);
        book.wait(1, 9);
        book.sheet(0, 0, 1);
        book.cell(0, 0, 5);
        book.hold(0, 1, 23, 0);
        book.hold(1, 2, 1, 2);
        Make.feed(book, "given ");
        Check.due("back", book.back(), 0);
        Check.due("no CLAUSES", book.clauseOf(0, 0), BAD);
        Check.due("an empty BAG", book.bagOf(2, 0), PLACE);
        Check.due("START, UP", book.price(1, 1), 1);
        Check.due("START, DOWN", book.price(1, 0), -1);
        Check.due("the SHEET stays", book.read(0, 0, 0), 5);
        Check.due("the HAND holds a number of none", book.asClause(0, 3), NOTHING);
        Check.due("the HAND holds its FRACTION", book.asFraction(1, 1), 2);
        Check.due("the tape stays", Make.told(book, "one"), 1);
        Check.due("ODDS, WAIT", book.mean(0, 0, 0, 0), 1);
        Check.due("ODDS, WAIT", book.mean(0, 0, 0, 1), 1);
        Check.due("the image stays", book.back(), 0);
        while (book.count(0) < 24) book.clause(ONE, 0, 0, 0);
        for (int i = 0; i < 2; i++) book.drop();
        book.clause(UNTIL, 2, 0, 0);
        book.clause(BOTH, 0, 22, 22);
        Check.due("of a full book", book.image(), 24);
        while (book.count(0) > 0) book.drop();
        while (book.count(0) < 24) book.clause(ONE, 0, 0, 0);
        Check.due("back", book.back(), 24);
        int[] last = {BOTH, 0, 22, 22, 2, 5, 3};
        for (int what = 0; what < 7; what++) Check.due("the last of them, " + what, book.clauseOf(23, what), last[what]);
        Check.due("no room", book.clause(ONE, 0, 0, 0), FULL);
    }

    /** "v is (double) above / below of VALUE: how 0 (long) (v * 100) .. 5 Float.floatToIntBits((float) v % 0.75f)" */
    private static void valueAsAtItsEdges() {
        ClauseBook book = huge();
        book.clause(0, 0, 0, 0);
        int least = book.clause(SCALED, -8, 10, 0);
        int third = book.clause(LATE, 0, book.clause(UNTIL, 1, 0, 0), 0);
        int owed = book.clause(GIVEN, 0, third, 0);
        book.wait(1, 3);
        int[] clauses = {11, 10, least, third, owed, 1, 9};
        double[] v = {0.0, (double) HUGE, (double) Long.MIN_VALUE, 1.0 / 3, -1.0 / 3, 64, (double) (1L << 54)};
        for (int i = 0; i < v.length; i++) {
            Check.due(v[i] + " as 0", book.valueAs(clauses[i], 0, 0, 0), (long) (v[i] * 100));
            Check.due(v[i] + " as 1", book.valueAs(clauses[i], 0, 0, 1), Float.floatToIntBits((float) v[i]));
            Check.due(v[i] + " as 2", book.valueAs(clauses[i], 0, 0, 2), Double.doubleToLongBits(v[i]));
            Check.due(v[i] + " as 3", book.valueAs(clauses[i], 0, 0, 3), (int) (v[i] % 1.0 * 1000));
            Check.due(v[i] + " as 4", book.valueAs(clauses[i], 0, 0, 4), Double.doubleToLongBits(v[i] % 0.375));
            Check.due(v[i] + " as 5", book.valueAs(clauses[i], 0, 0, 5), Float.floatToIntBits((float) v[i] % 0.75f));
        }
        Check.due("(long) stops at the most", book.valueAs(10, 0, 0, 0), Long.MAX_VALUE);
        Check.due("(long) stops at the least", book.valueAs(least, 0, 0, 0), Long.MIN_VALUE);
        Check.due("-1 of 3 is cut", book.valueAs(owed, 0, 0, 0), -33);
        Check.due("-333", book.valueAs(owed, 0, 0, 3), -333);
        book.start(-3, 0, 0);
        Check.due("-3 % 0.375 is -0.0", book.valueAs(1, 0, 0, 4), Long.MIN_VALUE);
        Check.due("-3 % 0.75f is -0.0f", book.valueAs(1, 0, 0, 5), Integer.MIN_VALUE);
        Check.due("-3 % 1.0 is 0 as an int", book.valueAs(1, 0, 0, 3), 0);
    }

    /** "0 CLAUSES, 1 START, 2 CLAUSES that no other one names, 3 CLAUSES in BAGS (each as often as it lies there)" */
    private static void countsOfNone() {
        ClauseBook book = new ClauseBook();
        for (int what = 0; what < 4; what++) Check.due("of none", book.count(what), 0);
        book.start(-99, 0, 0);
        Check.due("START", book.count(1), -99);
        book.clause(ONE, 0, 0, 0);
        Check.due("no other one names it", book.count(2), 1);
        book.clause(BOTH, 0, 0, 0);
        Check.due("named twice", book.count(2), 1);
        book.clause(GIVEN, 0, 0, 0);
        Check.due("two name it", book.count(2), 2);
        book.drop();
        book.drop();
        Check.due("no other one names it any more", book.count(2), 1);
        ClauseBook full = Make.full();
        Check.due("24", full.count(0), 24);
        Check.due("24 that none names", full.count(2), 24);
    }
}
