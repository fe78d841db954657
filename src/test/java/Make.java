/** Books to begin with. */
final class Make {
    private Make() {
    }

    /** A row of texts comes onto the tape byte by byte. */
    static void feed(ClauseBook book, String text) {
        for (int i = 0; i < text.length(); i++) book.feed(1, text.charAt(i) << 24);
    }

    static int told(ClauseBook book, String text) {
        feed(book, text);
        return book.text();
    }

    static void put(ClauseBook book, int bag, int... clauses) {
        for (int x : clauses) book.put(bag, x);
    }

    /** 24 clauses, each ONE. */
    static ClauseBook full() {
        ClauseBook book = new ClauseBook();
        for (int i = 0; i < 24; i++) book.clause(1, 0, 0, 0);
        return book;
    }

    /**
     * Something of all. 0 ONE, 1 NOTHING, 2 PRICED 0, 3 UNTIL 2 of 2, 4 FREE 3, 5 LATE 3, 6 BETTER 4 5, 7 WORSE 3 5,
     * 8 THEN 3 0, 9 WHERE 12 2 0, 10 BOTH 5 0, 11 SCALED -9 0, 12 GIVEN 11; 13 is no more. Bag 0: 2, 0, 13; bag 1: 0; bag 2 is
     * full. Sheets: 8 ints, 7 longs, 3 floats, missing. Hands: nothing, clause 4, 5 of 3, clause 13. The tape: "one ". The
     * image is of one clause, and of other prices, odds and bags.
     */
    static ClauseBook rich() {
        ClauseBook book = new ClauseBook();
        book.start(7, 1, 1);
        book.odds(1, 4);
        book.wait(1, 5);
        book.clause(1, 0, 0, 0);
        book.put(1, 0);
        book.image();
        book.start(10, 3, 2);
        book.odds(2, 3);
        book.wait(8, 9);
        int[][] more = {{0, 0, 0, 0}, {4, 0, 0, 0}, {8, 2, 2, 0}, {11, 0, 3, 0}, {10, 0, 3, 0}, {6, 0, 4, 5}, {7, 0, 3, 5}, {9, 0, 3, 0},
            {12, 12, 2, 0}, {5, 0, 5, 0}, {3, -9, 0, 0}, {2, 0, 11, 0}, {3, 3, 0, 0}};
        for (int[] m : more) book.clause(m[0], m[1], m[2], m[3]);
        put(book, 0, 2, 0, 13);
        put(book, 2, 2, 0, 2, 0, 2, 0, 2, 0, 2, 0, 2, 0);
        book.hold(1, 1, 4, 0);
        book.hold(2, 2, 5, 3);
        book.hold(3, 1, 13, 0);
        book.drop();
        for (int s = 0; s < 3; s++) {
            book.sheet(s, s, new int[] {8, 7, 3}[s]);
            for (int i = 0; i < 3; i++) book.cell(s, i, 100 * s + 10 * i + 7);
        }
        book.feed(4, 'o' << 24 | 'n' << 16 | 'e' << 8 | ' ');
        return book;
    }

    /**
     * The price is 64 everywhere. 0 ONE, 1 .. 10 PRICED (10 is 2 to the 60th), 11 PRICED 10: too much wherever it is had,
     * 12 UNTIL 3 of 11, 13 BETTER 12 0, 14 FREE 12, 15 WORSE 0 12. Sheets: 7 ints, 6 ints, missing, 7 longs. Bags: 0, 11;
     * then 12 alone; the last one is empty. Hands: nothing, clause 0, 1 of 2, nothing.
     */
    static ClauseBook much() {
        ClauseBook book = new ClauseBook();
        book.start(64, 0, 0);
        book.clause(1, 0, 0, 0);
        for (int i = 0; i < 11; i++) book.clause(4, 0, i, 0);
        book.clause(8, 3, 11, 0);
        book.clause(6, 0, 12, 0);
        book.clause(11, 0, 12, 0);
        book.clause(7, 0, 0, 12);
        book.sheet(0, 0, 7);
        book.sheet(1, 0, 6);
        book.sheet(3, 1, 7);
        for (int s = 0; s < 4; s++) for (int i = 0; i < 7; i++) book.cell(s, i, -5 - i);
        put(book, 0, 0, 11);
        put(book, 1, 12);
        book.hold(1, 1, 0, 0);
        book.hold(2, 2, 1, 2);
        return book;
    }
}
