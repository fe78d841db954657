/** The sentences of 'Terms', 1 and 2 until TAKEN, that name a boundary: a method each, with the sentence ahead of it. */
public final class TermsTest {
    private static final int BAD = -2, STATE = -3, FULL = -4, NOTHING = -11;
    private static final long NO_MUCH = -4611686018427387909L;
    private static final int ONE = 1, GIVEN = 2, SCALED = 3, PRICED = 4, BOTH = 5, BETTER = 6, WORSE = 7, UNTIL = 8, THEN = 9, LATE = 10, FREE = 11, WHERE = 12;
    private static final long HUGE = 1L << 60;

    public static void main(String[] args) {
        calls512();
        lowestTerms();
        noAndThatOne();
        pricesAtTheirEdges();
        firstNumbers();
        pathsAndSpots();
        clauses24();
        untilADay();
        endsAlone();
        endsOfTwo();
        valueBehindTheEnd();
        betterWorseOfOne();
        thenCantBeHadAnyMore();
        lateOnItsEnd();
        freeOnItsEnd();
        whereNOrMore();
        whereThatCantBeHad();
        meanOddsAtTheirEdges();
        meanInLowestTerms();
        meanProducts();
        meanSum();
        meanTimesTheWait();
        timesNone64Bits();
        sumProductsNone64Bits();
        sumNone64Bits();
        belowNone64Bits();
        whatNeedsMuch();
        thenWhereJustTheOne();
        muchAndNotMuchInTurn();
        aFullBookInTurn();
        chosenOfLikeOnes();
        greaterByHardlyAnything();
        comparedAtItsOwnSpot();
        takenNoLess();
        takenOnItsEnd();
        Check.end();
    }

    private static void worth(String what, ClauseBook book, int x, int day, int spot, long above, long below) {
        Check.due(what + ", above", book.value(x, day, spot, 0), above);
        Check.due(what + ", below", book.value(x, day, spot, 1), below);
    }

    private static void much(String what, ClauseBook book, int x, int day, int spot) {
        worth(what, book, x, day, spot, NO_MUCH, NO_MUCH);
    }

    /** "An object is used for at most 512 calls after it has been made": the 512th is answered as the first. */
    private static void calls512() {
        ClauseBook book = new ClauseBook();
        book.clause(ONE, 0, 0, 0);
        book.clause(PRICED, 0, 0, 0);
        for (int i = 0; i < 255; i++) {
            Check.due("start, call " + (2 * i + 3), book.start(i % 199 - 99, 9, 0), 1);
            Check.due("value, call " + (2 * i + 4), book.value(1, 6, 6, 0), i % 199 - 45);
        }
        ClauseBook fed = new ClauseBook();
        for (int i = 0; i < 256; i++) {
            Check.due("feed, call " + (2 * i + 1), fed.feed(4, 'x' << 24), 4);
            Check.due("text, call " + (2 * i + 2), fed.text(), -100);
        }
        ClauseBook halved = new ClauseBook();
        halved.sheet(0, 3, 1);
        halved.cell(0, 0, -1);
        for (int i = 0; i < 509; i++) halved.halve(0, 0);
        Check.due("-1 halved 509 times", halved.read(0, 0, 0), Double.doubleToLongBits(-Math.scalb(1.0, -509)));
    }

    /** "FRACTIONS, which are told in lowest terms: part 0 above, 1 below the line (above 0; 1 for 0)" */
    private static void lowestTerms() {
        ClauseBook book = new ClauseBook();
        book.clause(ONE, 0, 0, 0);
        book.clause(PRICED, 0, 0, 0);
        book.start(0, 1, 4);
        Check.due("less than 0: above", book.mean(1, 0, 0, 0), -3);
        Check.due("less than 0: below", book.mean(1, 0, 0, 1), 2);
        book.start(0, 1, 1);
        Check.due("0: above", book.mean(1, 0, 0, 0), 0);
        Check.due("0: below", book.mean(1, 0, 0, 1), 1);
        book.start(0, 9, 5);
        Check.due("4 of 2: above", book.mean(1, 0, 0, 0), 2);
        Check.due("4 of 2: below", book.mean(1, 0, 0, 1), 1);
        book.odds(4, 8);
        book.wait(3, 6);
        Check.due("1 of 1: above", book.mean(1, 0, 0, 0), 1);
        Check.due("1 of 1: below", book.mean(1, 0, 0, 1), 1);
    }

    /** "where a long is answered NO (-4611686018427387904) and that one, together" */
    private static void noAndThatOne() {
        ClauseBook book = Make.much();
        Check.due("value, BAD", book.value(0, 0, 0, 2), -4611686018427387906L);
        Check.due("value, MUCH", book.value(11, 0, 0, 0), -4611686018427387909L);
        Check.due("mean, BAD", book.mean(0, 6, 0, 0), -4611686018427387906L);
        Check.due("mean, MUCH", book.mean(11, 0, 0, 0), -4611686018427387909L);
        Check.due("valueAs, BAD", book.valueAs(0, 0, 0, 6), -4611686018427387906L);
        Check.due("valueAs, MUCH", book.valueAs(11, 0, 0, 0), -4611686018427387909L);
        Check.due("due, BAD", book.due(0, 0, 0, 7), -4611686018427387906L);
        Check.due("due, MUCH", book.due(11, 0, 0, 0), -4611686018427387909L);
        Check.due("failed, BAD", book.failed(0, 0, 0, 0, 10), -4611686018427387906L);
        Check.due("failed, MUCH", book.failed(11, 0, 0, 0, 0), -4611686018427387909L);
        Check.due("read, BAD", book.read(4, 0, 0), -4611686018427387906L);
        Check.due("read, NOTHING", book.read(2, 0, 0), -4611686018427387915L);
        Check.due("read, PLACE", book.read(0, 7, 0), -4611686018427387916L);
        Check.due("asFraction, BAD", book.asFraction(0, 2), -4611686018427387906L);
        Check.due("asFraction, NOTHING", book.asFraction(0, 0), -4611686018427387915L);
        Check.due("asFraction, KIND", book.asFraction(1, 0), -4611686018427387917L);
    }

    /** "PRICE at SPOT k of DAY t: START + UP * k - DOWN * (t - k); START is -99 .. 99, UP, DOWN are 0 .. 9" */
    private static void pricesAtTheirEdges() {
        ClauseBook book = new ClauseBook();
        book.start(99, 9, 9);
        Check.due("the most", book.price(6, 6), 153);
        Check.due("99 less 54", book.price(6, 0), 45);
        Check.due("99, in the middle", book.price(6, 3), 99);
        book.start(-99, 9, 9);
        Check.due("the least", book.price(6, 0), -153);
        Check.due("-99 and 54", book.price(6, 6), -45);
        book.start(-99, 0, 9);
        Check.due("UP 0", book.price(6, 6), -99);
        Check.due("UP 0, down once", book.price(6, 5), -108);
        book.start(99, 9, 0);
        Check.due("DOWN 0", book.price(6, 0), 99);
        Check.due("DOWN 0, up once", book.price(6, 1), 108);
    }

    /** "START (0 at first), UP, DOWN (1 at first). ODDS (1 of 2 at first). WAIT (1 of 1 at first)" */
    private static void firstNumbers() {
        ClauseBook book = new ClauseBook();
        for (int day = 0; day <= 6; day++) for (int spot = 0; spot <= day; spot++) Check.due("price", book.price(day, spot), 2 * spot - day);
        book.clause(ONE, 0, 0, 0);
        book.clause(0, 0, 0, 0);
        book.clause(WHERE, 1, 0, 1);
        Check.due("ODDS: 1", book.mean(2, 0, 0, 0), 1);
        Check.due("ODDS: of 2", book.mean(2, 0, 0, 1), 2);
        Check.due("WAIT: 1", book.mean(0, 0, 0, 0), 1);
        Check.due("WAIT: of 1", book.mean(0, 0, 0, 1), 1);
        Check.due("missing at first", book.halve(0, 0), NOTHING);
        Check.due("missing at first", book.halve(3, 0), NOTHING);
        Check.due("nothing in hands at first", book.asClause(0, 3), NOTHING);
        Check.due("nothing in hands at first", book.asClause(3, 3), NOTHING);
    }

    /** "On DAY t there are SPOTS 0 .. t"; "A PATH tells by bit t whether it goes up from DAY t (0 .. 63)" */
    private static void pathsAndSpots() {
        ClauseBook book = new ClauseBook();
        for (int day = 0; day <= 6; day++) {
            Check.due("the lowest", book.price(day, 0), -day);
            Check.due("below it", book.price(day, -1), BAD);
            Check.due("the highest", book.price(day, day), day);
            Check.due("above it", book.price(day, day + 1), BAD);
        }
        for (int bit = 0; bit < 6; bit++) {
            Check.due("not yet gone up from DAY " + bit, book.spotOf(1 << bit, bit), 0);
            Check.due("gone up from DAY " + bit, book.spotOf(1 << bit, bit + 1 > 6 ? 6 : bit + 1), 1);
        }
    }

    /** "CLAUSES are numbered from 0 on as they come, 24 at most" */
    private static void clauses24() {
        ClauseBook book = new ClauseBook();
        for (int i = 0; i < 24; i++) Check.due("number " + i, book.clause(i == 0 ? ONE : GIVEN, 0, i == 0 ? 0 : i - 1, 0), i);
        Check.due("the 25th", book.clause(GIVEN, 0, 23, 0), FULL);
        Check.due("24 times", book.value(23, 6, 0, 0), -1);
        Check.due("how deep", book.clauseOf(23, 6), 24);
        Check.due("no text has room", Make.told(book, "one"), -100);
    }

    /** "8 UNTIL n (0 .. 6), c: c, if it is had no later than DAY n" */
    private static void untilADay() {
        ClauseBook book = new ClauseBook();
        book.clause(ONE, 0, 0, 0);
        for (int n = 0; n <= 6; n++) {
            int x = book.clause(UNTIL, n, 0, 0);
            Check.due("END", book.clauseOf(x, 4), n);
            worth("no later", book, x, n, n, 1, 1);
            Check.due("due no later", book.due(x, n, 0, n), 1);
            if (n == 6) continue;
            worth("a DAY later", book, x, n + 1, 0, 0, 1);
            Check.due("due a DAY later", book.dueDays(x, n + 1, 0), 0);
        }
    }

    /** "END: NOTHING, ONE: 6. UNTIL: n, or END of c, if that is less. With c alone: END of c" */
    private static void endsAlone() {
        ClauseBook book = new ClauseBook();
        book.clause(ONE, 0, 0, 0);
        Check.due("ONE", book.clauseOf(0, 4), 6);
        Check.due("NOTHING", book.clauseOf(book.clause(0, 0, 0, 0), 4), 6);
        int three = book.clause(UNTIL, 3, 0, 0);
        Check.due("n is less", book.clauseOf(book.clause(UNTIL, 2, three, 0), 4), 2);
        Check.due("both are alike", book.clauseOf(book.clause(UNTIL, 3, three, 0), 4), 3);
        Check.due("END of c is less", book.clauseOf(book.clause(UNTIL, 4, three, 0), 4), 3);
        for (int kind : new int[] {GIVEN, SCALED, PRICED, LATE, FREE}) Check.due("KIND " + kind, book.clauseOf(book.clause(kind, 0, three, 0), 4), 3);
    }

    /** "With c, d: the greater one of both ENDS" */
    private static void endsOfTwo() {
        ClauseBook book = new ClauseBook();
        book.clause(ONE, 0, 0, 0);
        int none = book.clause(UNTIL, 0, 0, 0);
        int five = book.clause(UNTIL, 5, 0, 0);
        for (int kind : new int[] {BOTH, BETTER, WORSE, THEN, WHERE}) {
            Check.due("c is greater", book.clauseOf(book.clause(kind, 0, five, none), 4), 5);
            Check.due("d is greater", book.clauseOf(book.clause(kind, 0, none, five), 4), 5);
            Check.due("alike", book.clauseOf(book.clause(kind, 0, none, none), 4), 0);
        }
    }

    /** "VALUE: 0, if the DAY is behind its END" */
    private static void valueBehindTheEnd() {
        ClauseBook book = new ClauseBook();
        book.start(5, 1, 1);
        book.clause(ONE, 0, 0, 0);
        int c = book.clause(UNTIL, 2, 0, 0);
        int[] kinds = {GIVEN, SCALED, PRICED, BOTH, BETTER, WORSE, UNTIL, THEN, LATE, FREE, WHERE};
        int[] on = {-1, 9, 5, 2, 1, 1, 1, 1, 1, 1, 1};
        for (int i = 0; i < kinds.length; i++) {
            boolean two = kinds[i] >= BOTH && kinds[i] <= WORSE || kinds[i] == THEN || kinds[i] == WHERE;
            int x = book.clause(kinds[i], kinds[i] == SCALED ? 9 : kinds[i] == UNTIL ? 6 : 0, c, two ? c : 0);
            worth("KIND " + kinds[i] + " on its END", book, x, 2, 1, on[i], 1);
            worth("KIND " + kinds[i] + " behind it", book, x, 3, 1, 0, 1);
            worth("KIND " + kinds[i] + " on DAY 6", book, x, 6, 6, 0, 1);
        }
    }

    /** "BETTER: the greater of both, if c and d can both be had that DAY, else that of the one that can; WORSE: the lesser, likewise" */
    private static void betterWorseOfOne() {
        ClauseBook book = new ClauseBook();
        book.clause(ONE, 0, 0, 0);
        int owed = book.clause(GIVEN, 0, 0, 0);
        int one = book.clause(UNTIL, 2, 0, 0);
        int soon = book.clause(UNTIL, 2, owed, 0);
        worth("BETTER 1, -1", book, book.clause(BETTER, 0, one, owed), 2, 0, 1, 1);
        worth("BETTER: -1 alone, though 0 is more", book, 4, 3, 0, -1, 1);
        worth("BETTER -1, 1", book, book.clause(BETTER, 0, owed, one), 2, 0, 1, 1);
        worth("BETTER: -1 alone, as c", book, 5, 3, 0, -1, 1);
        worth("WORSE 1, -1", book, book.clause(WORSE, 0, 0, soon), 2, 0, -1, 1);
        worth("WORSE: 1 alone, though 0 is less", book, 6, 3, 0, 1, 1);
        worth("WORSE -1, 1", book, book.clause(WORSE, 0, soon, 0), 2, 0, -1, 1);
        worth("WORSE: 1 alone, as d", book, 7, 3, 0, 1, 1);
        worth("BETTER of neither", book, book.clause(BETTER, 0, one, soon), 3, 0, 0, 1);
        Check.due("none is CHOSEN", book.chosen(8, 3, 0), STATE);
        Check.due("CHOSEN: d alone", book.chosen(4, 3, 0), owed);
        Check.due("CHOSEN: c alone", book.chosen(5, 3, 0), owed);
        Check.due("CHOSEN: c alone", book.chosen(6, 3, 0), 0);
        Check.due("CHOSEN: d alone", book.chosen(7, 3, 0), 0);
        Check.due("due: d alone", book.due(4, 3, 0, 3), -1);
        Check.due("due: c alone", book.due(6, 3, 0, 3), 1);
    }

    /** "9 THEN c, d: c; if that can't be had any more, d" */
    private static void thenCantBeHadAnyMore() {
        ClauseBook book = new ClauseBook();
        book.clause(ONE, 0, 0, 0);
        int none = book.clause(SCALED, 0, 0, 0);
        int soon = book.clause(UNTIL, 2, none, 0);
        int five = book.clause(SCALED, 5, 0, 0);
        int until4 = book.clause(UNTIL, 4, five, 0);
        int then = book.clause(THEN, 0, soon, until4);
        worth("c, though d is more", book, then, 2, 2, 0, 1);
        worth("d", book, then, 3, 0, 5, 1);
        worth("d on its END", book, then, 4, 0, 5, 1);
        worth("neither", book, then, 5, 0, 0, 1);
        Check.due("0 of c falls due", book.dueDays(then, 2, 0), 4);
        Check.due("d falls due", book.due(then, 3, 0, 3), 5);
        Check.due("neither", book.dueDays(then, 5, 0), 0);
    }

    /** "LATE: on END of c that of c; else MEAN of its own VALUES" */
    private static void lateOnItsEnd() {
        ClauseBook book = new ClauseBook();
        book.wait(1, 2);
        book.clause(ONE, 0, 0, 0);
        int late6 = book.clause(LATE, 0, 0, 0);
        int soon = book.clause(UNTIL, 0, 0, 0);
        int late0 = book.clause(LATE, 0, soon, 0);
        for (int day = 0; day <= 6; day++) worth("DAY " + day + " ahead of 6", book, late6, day, 0, 1, 1L << 6 - day);
        worth("END 0: at once", book, late0, 0, 0, 1, 1);
        worth("END 0: behind it", book, late0, 1, 0, 0, 1);
        Check.due("due on DAY 6", book.dueDays(late6, 0, 0), 64);
        Check.due("had on DAY 6", book.dueDays(late6, 6, 0), 64);
        Check.due("due on DAY 0", book.dueDays(late0, 0, 0), 1);
        Check.due("due behind it", book.dueDays(late0, 1, 0), 0);
    }

    /** "FREE: on END of c that of c; else the greater one of that of c, and MEAN of its own VALUES" */
    private static void freeOnItsEnd() {
        ClauseBook book = new ClauseBook();
        book.clause(ONE, 0, 0, 0);
        int owed = book.clause(GIVEN, 0, 0, 0);
        int free = book.clause(FREE, 0, owed, 0);
        int soon = book.clause(UNTIL, 2, owed, 0);
        int freeSoon = book.clause(FREE, 0, soon, 0);
        book.wait(1, 2);
        for (int day = 0; day <= 6; day++) worth("to owe later is more, DAY " + day, book, free, day, 0, -1, 1L << 6 - day);
        worth("on END 2, though 0 is more", book, freeSoon, 2, 0, -1, 1);
        worth("behind it", book, freeSoon, 3, 0, 0, 1);
        worth("a DAY ahead", book, freeSoon, 1, 0, -1, 2);
        int gain = book.clause(FREE, 0, 0, 0);
        worth("to have at once is more", book, gain, 0, 0, 1, 1);
    }

    /** "12 WHERE n (-99 .. 99), c, d: c, if PRICE is n or more, else d" */
    private static void whereNOrMore() {
        ClauseBook book = new ClauseBook();
        book.clause(ONE, 0, 0, 0);
        book.clause(GIVEN, 0, 0, 0);
        int most = book.clause(WHERE, 99, 0, 1);
        int least = book.clause(WHERE, -99, 0, 1);
        book.start(99, 1, 1);
        worth("99 is 99", book, most, 0, 0, 1, 1);
        worth("100 is more", book, most, 1, 1, 1, 1);
        worth("98 is less", book, most, 1, 0, -1, 1);
        Check.due("due, 99", book.due(most, 0, 0, 0), 1);
        Check.due("due, 98", book.due(most, 1, 0, 1), -1);
        book.start(-99, 1, 1);
        worth("-99 is -99", book, least, 0, 0, 1, 1);
        worth("-98 is more", book, least, 1, 1, 1, 1);
        worth("-100 is less", book, least, 1, 0, -1, 1);
        Check.due("due, -99", book.due(least, 0, 0, 0), 1);
        Check.due("due, -100", book.due(least, 1, 0, 1), -1);
    }

    /** "WHERE: that of the one that it names for PRICE there": 0, if just the other one can be had */
    private static void whereThatCantBeHad() {
        ClauseBook book = new ClauseBook();
        book.clause(ONE, 0, 0, 0);
        int soon = book.clause(UNTIL, 2, 0, 0);
        int high = book.clause(WHERE, 0, soon, 0);
        int low = book.clause(WHERE, 0, 0, soon);
        worth("c on its END", book, high, 2, 1, 1, 1);
        worth("c behind it", book, high, 3, 3, 0, 1);
        worth("d can be had", book, high, 3, 0, 1, 1);
        worth("d on its END", book, low, 2, 0, 1, 1);
        worth("d behind it", book, low, 3, 0, 0, 1);
        worth("c can be had", book, low, 3, 3, 1, 1);
        Check.due("nothing falls due of c", book.dueDays(high, 3, 63), 0);
        Check.due("nothing falls due of d", book.dueDays(low, 3, 0), 0);
        Check.due("d falls due", book.dueDays(high, 3, 0), 8);
        Check.due("c falls due", book.dueDays(low, 3, 63), 8);
    }

    /** "ODDS of going up are p of q (q 2 .. 9, p 0 .. q)"; "WAIT: a of b (b 1 .. 9, a 1 .. b)" */
    private static void meanOddsAtTheirEdges() {
        ClauseBook book = new ClauseBook();
        book.start(50, 9, 7);
        book.clause(ONE, 0, 0, 0);
        book.clause(PRICED, 0, 0, 0);
        int[][] odds = {{0, 2, 43, 1}, {2, 2, 59, 1}, {0, 9, 43, 1}, {9, 9, 59, 1}, {1, 9, 403, 9}, {8, 9, 515, 9}};
        for (int[] o : odds) {
            book.odds(o[0], o[1]);
            Check.due(o[0] + " of " + o[1] + ", above", book.mean(1, 0, 0, 0), o[2]);
            Check.due(o[0] + " of " + o[1] + ", below", book.mean(1, 0, 0, 1), o[3]);
        }
        book.odds(2, 2);
        int[][] waits = {{1, 1, 59, 1}, {1, 9, 59, 9}, {9, 9, 59, 1}, {8, 9, 472, 9}};
        for (int[] w : waits) {
            book.wait(w[0], w[1]);
            Check.due(w[0] + " of " + w[1] + ", above", book.mean(1, 0, 0, 0), w[2]);
            Check.due(w[0] + " of " + w[1] + ", below", book.mean(1, 0, 0, 1), w[3]);
        }
    }

    /** 0 ONE, 1 .. 10 PRICED: 10 is 2 to the 60th everywhere; 11 is less than 0 by as much. */
    private static ClauseBook huge() {
        ClauseBook book = new ClauseBook();
        book.start(64, 0, 0);
        book.clause(ONE, 0, 0, 0);
        for (int i = 0; i < 10; i++) book.clause(PRICED, 0, i, 0);
        book.clause(GIVEN, 0, 10, 0);
        return book;
    }

    private static long mean(ClauseBook book, int x, int p, int q) {
        book.odds(p, q);
        return book.mean(x, 5, 2, 0);
    }

    /** "times the FRACTION a of b * q (in lowest terms)": what would be too much otherwise is not */
    private static void meanInLowestTerms() {
        ClauseBook book = huge();
        for (int n = 1; n <= 7; n++) {
            book.wait(n, n);
            Check.due(n + " of " + n + " times 7 is 1 of 7", mean(book, 10, 7, 7), HUGE);
        }
        book.wait(2, 4);
        Check.due("2 of 28 is 1 of 14", mean(book, 10, 7, 7), HUGE / 2);
        book.wait(4, 5);
        Check.due("4 of 10 is 2 of 5: 2 times 2 to the 61st", mean(book, 10, 2, 2), 4 * HUGE);
        Check.due("of 5", book.mean(10, 5, 2, 1), 5);
    }

    /** "p times VALUE (of the next DAY, gone up), and (q - p) times VALUE (gone down)": each product is of 64 bits, or MUCH */
    private static void meanProducts() {
        ClauseBook book = huge();
        Check.due("7 times, 0 times", mean(book, 10, 7, 7), HUGE);
        Check.due("8 times, 0 times", mean(book, 10, 8, 8), NO_MUCH);
        Check.due("-8 times, 0 times", mean(book, 11, 8, 8), -HUGE);
        Check.due("-9 times, 0 times", mean(book, 11, 9, 9), NO_MUCH);
        Check.due("0 times, 7 times", mean(book, 10, 0, 7), HUGE);
        Check.due("0 times, 8 times", mean(book, 10, 0, 8), NO_MUCH);
        Check.due("0 times, -8 times", mean(book, 11, 0, 8), -HUGE);
        Check.due("0 times, -9 times", mean(book, 11, 0, 9), NO_MUCH);
    }

    /** ".. added": the sum is of 64 bits, or MUCH */
    private static void meanSum() {
        ClauseBook book = huge();
        Check.due("3 and 4", mean(book, 10, 3, 7), HUGE);
        Check.due("3 and 5", mean(book, 10, 3, 8), NO_MUCH);
        Check.due("-3 and -5", mean(book, 11, 3, 8), -HUGE);
        Check.due("-4 and -5", mean(book, 11, 4, 9), NO_MUCH);
    }

    /** ".. times the FRACTION a of b * q": that product is of 64 bits, or MUCH */
    private static void meanTimesTheWait() {
        ClauseBook book = huge();
        book.wait(2, 3);
        Check.due("3 times 2: 6 of 9", mean(book, 10, 1, 3), 2 * HUGE);
        Check.due("its terms: 2 of 9 times 3", book.mean(10, 5, 2, 1), 3);
        Check.due("4 times 2 is 4 times 1: 1 of 6", mean(book, 10, 1, 4), 2 * HUGE);
        Check.due("5 times 2", mean(book, 10, 1, 5), NO_MUCH);
        Check.due("-5 times 2", mean(book, 11, 1, 5), NO_MUCH);
        book.wait(8, 9);
        Check.due("5 times 8", mean(book, 10, 1, 5), NO_MUCH);
        Check.due("what is small", book.mean(0, 0, 0, 0), 8);
    }

    /** "(x * v) of (y * w) .. is one of these products none of 64 bits, it is MUCH" */
    private static void timesNone64Bits() {
        ClauseBook book = huge();
        worth("7 times 2 to the 60th", book, book.clause(SCALED, 7, 10, 0), 0, 0, 7 * HUGE, 1);
        much("8 times", book, book.clause(SCALED, 8, 10, 0), 0, 0);
        int least = book.clause(SCALED, -8, 10, 0);
        worth("-8 times", book, least, 0, 0, Long.MIN_VALUE, 1);
        much("-9 times", book, book.clause(SCALED, -9, 10, 0), 0, 0);
        much("GIVEN the least", book, book.clause(GIVEN, 0, least, 0), 0, 0);
        worth("once the least", book, book.clause(SCALED, 1, least, 0), 0, 0, Long.MIN_VALUE, 1);
        int priced = book.clause(PRICED, 0, 10, 0);
        much("64 times", book, priced, 0, 0);
        // 7 to the 10th is 282475249
        book.start(7, 1, 9);
        worth("7 to the 11th", book, priced, 0, 0, 1977326743L, 1);
        book.start(-64, 9, 0);
        worth("-46 to the 11th", book, priced, 2, 2, -1951354384207722496L, 1);
        much("-55 to the 11th", book, priced, 1, 1);
        book.start(0, 0, 0);
        worth("0 to the 11th", book, priced, 0, 0, 0, 1);
    }

    /** 0 ONE, 1 .. 10 PRICED (2 to the 60th on DAY 0), 11 NOTHING, 12 WHERE 67, 13 UNTIL 3, 14 LATE: 1 of 8, 15 -1 of 8, 16 -2 to the 60th. */
    private static ClauseBook eighth() {
        ClauseBook book = new ClauseBook();
        book.start(64, 1, 1);
        book.clause(ONE, 0, 0, 0);
        for (int i = 0; i < 10; i++) book.clause(PRICED, 0, i, 0);
        book.clause(0, 0, 0, 0);
        book.clause(WHERE, 67, 0, 11);
        book.clause(UNTIL, 3, 12, 0);
        book.clause(LATE, 0, 13, 0);
        book.clause(GIVEN, 0, 14, 0);
        book.clause(GIVEN, 0, 10, 0);
        return book;
    }

    /** "(x * w + v * y) of (y * w) .. is one of these products none of 64 bits, it is MUCH" */
    private static void sumProductsNone64Bits() {
        ClauseBook book = eighth();
        worth("1 of 8", book, 14, 0, 0, 1, 8);
        much("x * w is 2 to the 63rd", book, book.clause(BOTH, 0, 10, 14), 0, 0);
        much("v * y is 2 to the 63rd", book, book.clause(BOTH, 0, 14, 10), 0, 0);
        much("x * w is, though the sum would not be", book, book.clause(BOTH, 0, 10, 15), 0, 0);
        much("v * y is, though the sum would not be", book, book.clause(BOTH, 0, 15, 10), 0, 0);
        worth("x * w is -2 to the 63rd", book, book.clause(BOTH, 0, 16, 14), 0, 0, -Long.MAX_VALUE, 8);
        worth("v * y is -2 to the 63rd", book, book.clause(BOTH, 0, 14, 16), 0, 0, -Long.MAX_VALUE, 8);
        worth("2 to the 54th and 1 of 8", book, book.clause(BOTH, 0, 9, 14), 0, 0, (1L << 57) + 1, 8);
    }

    /** ".. or the sum, none of 64 bits, it is MUCH" */
    private static void sumNone64Bits() {
        ClauseBook book = eighth();
        much("-2 to the 63rd less 1", book, book.clause(BOTH, 0, 16, 15), 0, 0);
        int half = book.clause(SCALED, 4, 10, 0);
        int less = book.clause(SCALED, -4, 10, 0);
        int owed = book.clause(GIVEN, 0, 0, 0);
        much("2 to the 62nd, twice", book, book.clause(BOTH, 0, half, half), 0, 0);
        int least = book.clause(BOTH, 0, less, less);
        worth("-2 to the 62nd, twice", book, least, 0, 0, Long.MIN_VALUE, 1);
        much("less 1", book, book.clause(BOTH, 0, least, owed), 0, 0);
        book.swap(23, least, 0);
        worth("and 1", book, 23, 0, 0, -Long.MAX_VALUE, 1);
        // 2 to the 62nd less 1, and 2 to the 62nd
        book.swap(21, half, owed);
        book.swap(22, 21, half);
        worth("the most", book, 22, 0, 0, Long.MAX_VALUE, 1);
        book.swap(23, 22, 0);
        much("and 1", book, 23, 0, 0);
        book.swap(23, 22, owed);
        worth("less 1", book, 23, 0, 0, Long.MAX_VALUE - 1, 1);
    }

    /** "(y * w)": what is below the line must be of 64 bits, too: 81 to the 9th is, 81 to the 10th is not */
    private static void belowNone64Bits() {
        ClauseBook book = new ClauseBook();
        book.odds(1, 9);
        book.wait(1, 9);
        book.clause(ONE, 0, 0, 0);
        book.clause(0, 0, 0, 0);
        int[] late = new int[7];
        for (int n = 3; n <= 6; n++) late[n] = book.clause(LATE, 0, book.clause(UNTIL, n, book.clause(WHERE, n, 0, 1), 0), 0);
        worth("1 of 81 to the 6th", book, late[6], 0, 0, 1, 282429536481L);
        worth("1 of 81 to the 3rd", book, late[3], 0, 0, 1, 531441);
        worth("81 to the 3rd times 81 to the 6th", book, book.clause(BOTH, 0, late[3], late[6]), 0, 0, 531442, 282429536481L);
        much("81 to the 4th times 81 to the 6th", book, book.clause(BOTH, 0, late[4], late[6]), 0, 0);
        worth("81 to the 4th times 81 to the 5th", book, book.clause(BOTH, 0, late[4], late[5]), 0, 0, 82, 3486784401L);
        much("81 to the 5th, twice", book, book.clause(BOTH, 0, late[5], late[5]), 0, 0);
        worth("a DAY later 81 to the 4th, twice", book, 17, 1, 1, 2, 43046721);
    }

    /** "it is MUCH, and so is what needs it. (BETTER, WORSE, FREE need both ..)" */
    private static void whatNeedsMuch() {
        ClauseBook book = Make.much();
        for (int kind : new int[] {GIVEN, SCALED, PRICED, UNTIL, LATE, FREE}) {
            much("KIND " + kind, book, book.clause(kind, 0, 11, 0), 0, 0);
            book.drop();
        }
        for (int kind : new int[] {BOTH, BETTER, WORSE}) {
            for (int turn = 0; turn < 2; turn++) {
                much("KIND " + kind + ", turn " + turn, book, book.clause(kind, 0, turn == 0 ? 11 : 0, turn == 0 ? 0 : 11), 0, 0);
                book.drop();
            }
        }
        int none = book.clause(0, 0, 0, 0);
        much("less than all that could be", book, book.clause(BETTER, 0, 12, none), 3, 0);
        worth("c can't be had any more", book, 17, 4, 0, 0, 1);
        // on DAY 6 at the highest SPOT alone it is too much: there the price is 64
        book.start(58, 1, 9);
        int where = book.clause(WHERE, 64, 11, none);
        int free = book.clause(FREE, 0, where, 0);
        int late = book.clause(LATE, 0, where, 0);
        much("c on its END", book, free, 6, 6);
        worth("c on its END, elsewhere", book, free, 6, 5, 0, 1);
        much("FREE needs MEAN", book, free, 0, 0);
        worth("FREE, where it can't come to it", book, free, 1, 0, 0, 1);
        much("LATE needs MEAN", book, late, 5, 5);
        worth("LATE, where it can't come to it", book, late, 5, 4, 0, 1);
    }

    /** "(.. THEN, WHERE just the one.)" */
    private static void thenWhereJustTheOne() {
        ClauseBook book = Make.much();
        int then = book.clause(THEN, 0, 0, 11);
        worth("THEN needs c alone", book, then, 6, 0, 1, 1);
        int after = book.clause(THEN, 0, 12, 0);
        much("THEN needs c", book, after, 3, 0);
        worth("THEN needs d alone", book, after, 4, 0, 1, 1);
        int where = book.clause(WHERE, 64, 0, 11);
        worth("WHERE needs c alone", book, where, 0, 0, 1, 1);
        int not = book.clause(WHERE, 65, 11, 0);
        worth("WHERE needs d alone", book, not, 0, 0, 1, 1);
        book.swap(not, 0, 11);
        much("WHERE needs d", book, not, 0, 0);
    }

    /** What was told of other prices, odds or names does not last: MUCH comes and goes */
    private static void muchAndNotMuchInTurn() {
        ClauseBook book = Make.much();
        int[] clauses = {11, 12, 13, 14, 15};
        for (int turn = 0; turn < 3; turn++) {
            book.start(64, 0, 0);
            for (int x : clauses) much("price 64, " + x, book, x, 2, 1);
            book.start(1, 0, 0);
            for (int x : clauses) worth("price 1, " + x, book, x, 2, 1, 1, 1);
        }
        book.start(64, 0, 0);
        book.swap(11, 0, 0);
        int[] values = {64, 64, 64, 64, 1};
        for (int i = 0; i < 5; i++) worth("64 times 1, " + clauses[i], book, clauses[i], 2, 1, values[i], 1);
        book.swap(11, 10, 0);
        for (int x : clauses) much("64 times 2 to the 60th, " + x, book, x, 2, 1);
    }

    /** With 24 CLAUSES the last ones keep their VALUES, whatever else is asked for */
    private static void aFullBookInTurn() {
        ClauseBook book = new ClauseBook();
        book.start(40, 3, 2);
        book.odds(1, 3);
        book.clause(ONE, 0, 0, 0);
        book.clause(PRICED, 0, 0, 0);
        book.clause(LATE, 0, 1, 0);
        book.clause(FREE, 0, 1, 0);
        for (int i = 4; i < 24; i++) book.clause(SCALED, i == 23 ? 7 : 1, i == 4 ? 1 : i - 1, 0);
        book.hold(0, 2, 3, 7);
        for (int turn = 0; turn < 2; turn++) {
            for (int spot = 0; spot <= 6; spot++) worth("the last", book, 23, 6, spot, 7 * (28 + 5 * spot), 1);
            Check.due("mean", book.mean(1, 5, 2, 0), 119);
            Check.due("mean, below", book.mean(1, 5, 2, 1), 3);
            Check.due("taken", book.taken(3, 5, 3), 5);
            Check.due("compare", book.compare(0, 2, 6, 1), 1);
            Check.due("hold", book.hold(1, 2, 4, 6), turn == 0 ? 0 : 2);
        }
    }

    /** "the greater of both": also if just what is behind the line tells it */
    private static void greaterByHardlyAnything() {
        ClauseBook book = new ClauseBook();
        book.start(0, 9, 0);
        book.clause(ONE, 0, 0, 0);
        book.clause(PRICED, 0, 0, 0);
        int late = book.clause(LATE, 0, book.clause(UNTIL, 1, 1, 0), 0);
        int owed = book.clause(GIVEN, 0, late, 0);
        worth("9 of 2", book, late, 0, 0, 9, 2);
        long[][] held = {{4, 1, 1}, {5, 1, -1}, {9, 2, 0}, {13, 3, 1}, {14, 3, -1}, {17, 4, 1}, {19, 4, -1}, {89, 20, 1}, {91, 20, -1}, {0, 1, 1}, {-5, 1, 1}};
        for (long[] h : held) {
            book.hold(0, 2, h[0], h[1]);
            Check.due("9 of 2 against " + h[0] + " of " + h[1], book.compare(0, late, 0, 0), h[2]);
            book.hold(0, 2, -h[0], h[1]);
            Check.due("-9 of 2 against " + -h[0] + " of " + h[1], book.compare(0, owed, 0, 0), -h[2]);
        }
        int four = book.clause(SCALED, 4, 0, 0);
        int five = book.clause(SCALED, 5, 0, 0);
        Check.due("9 of 2 is more than 4", book.chosen(book.clause(BETTER, 0, four, late), 0, 0), late);
        Check.due("9 of 2 is less than 5", book.chosen(book.clause(BETTER, 0, five, late), 0, 0), five);
        Check.due("4 is less than 9 of 2", book.chosen(book.clause(WORSE, 0, late, four), 0, 0), four);
        Check.due("5 is more than 9 of 2", book.chosen(book.clause(WORSE, 0, late, five), 0, 0), late);
    }

    /** "VALUE of a CLAUSE against the FRACTION that a HAND holds": at that SPOT, by that HAND */
    private static void comparedAtItsOwnSpot() {
        ClauseBook book = new ClauseBook();
        book.start(50, 2, 3);
        book.clause(ONE, 0, 0, 0);
        book.clause(PRICED, 0, 0, 0);
        for (int day = 0; day <= 6; day++) {
            for (int spot = 0; spot <= day; spot++) {
                book.hold(day % 3, 2, 50 + 2 * spot - 3 * (day - spot), 1);
                book.hold(3, 2, 1, 3);
                Check.due("alike", book.compare(day % 3, 1, day, spot), 0);
                Check.due("more", book.compare(3, 1, day, spot), 1);
            }
        }
    }

    /** "It is CHOSEN: of BETTER d, if VALUE of d is more than that of c, of WORSE d, if it is less; else c" */
    private static void chosenOfLikeOnes() {
        ClauseBook book = new ClauseBook();
        book.start(1, 1, 1);
        book.clause(ONE, 0, 0, 0);
        book.clause(PRICED, 0, 0, 0);
        int better = book.clause(BETTER, 0, 0, 1);
        int worse = book.clause(WORSE, 0, 0, 1);
        Check.due("BETTER, alike", book.chosen(better, 0, 0), 0);
        Check.due("WORSE, alike", book.chosen(worse, 0, 0), 0);
        Check.due("BETTER, d is more", book.chosen(better, 1, 1), 1);
        Check.due("WORSE, d is more", book.chosen(worse, 1, 1), 0);
        Check.due("BETTER, d is less", book.chosen(better, 1, 0), 0);
        Check.due("WORSE, d is less", book.chosen(worse, 1, 0), 1);
        Check.due("named twice", book.chosen(book.clause(BETTER, 0, 1, 1), 3, 1), 1);
    }

    /** "FREE c is TAKEN on the first DAY .. on which VALUE of c is no less than MEAN of FREE's own VALUES" */
    private static void takenNoLess() {
        ClauseBook book = new ClauseBook();
        book.clause(ONE, 0, 0, 0);
        book.clause(PRICED, 0, 0, 0);
        int free = book.clause(FREE, 0, 1, 0);
        book.start(9, 1, 1);
        Check.due("alike on DAY 0", book.taken(free, 0, 63), 0);
        Check.due("alike on DAY 4, had then", book.taken(free, 4, 63), 4);
        book.start(9, 2, 1);
        Check.due("less on all DAYS", book.taken(free, 0, 63), 6);
        Check.due("less on all DAYS, going down", book.taken(free, 3, 0), 6);
        book.wait(8, 9);
        book.start(9, 0, 1);
        Check.due("more on DAY 0", book.taken(free, 0, 0), 0);
        book.start(-9, 0, 0);
        Check.due("less than later on all DAYS", book.taken(free, 0, 0), 6);
    }

    /** ".. or that is END of c" */
    private static void takenOnItsEnd() {
        ClauseBook book = new ClauseBook();
        book.wait(1, 2);
        book.clause(ONE, 0, 0, 0);
        book.clause(GIVEN, 0, 0, 0);
        for (int n = 0; n <= 6; n++) {
            int free = book.clause(FREE, 0, book.clause(UNTIL, n, 1, 0), 0);
            Check.due("END " + n, book.taken(free, 0, 0), n);
            Check.due("END " + n + ", had then", book.taken(free, n, 63), n);
            Check.due("END " + n + ", due", book.dueDays(free, 0, 0), 1 << n);
            if (n < 6) Check.due("END " + n + ", a DAY later", book.taken(free, n + 1, 0), STATE);
        }
    }
}
