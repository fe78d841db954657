/** Promises 31 to 35: rows of four sorts. */
public final class SheetsTest {
    private static final long NO = ClauseBook.NO;
    private static final long[] NUMBERS = {0, 1, -1, 7, -7, 14, 20, -20, 6, Integer.MAX_VALUE, Integer.MIN_VALUE, 1L << 24, (1L << 24) + 1, (1L << 53) + 1,
        Long.MAX_VALUE, Long.MIN_VALUE, 123456789012345L, -987654321098765L};

    public static void main(String[] args) {
        promise31Sheet();
        promise32Cell();
        promise33Read();
        promise33Refused();
        promise34Halve();
        promise34ToNothing();
        promise35Copy();
        promise35Refused();
        Check.end();
    }

    private static void promise31Sheet() {
        ClauseBook book = new ClauseBook();
        for (int sort = 0; sort < 4; sort++) {
            Check.due("sheet", book.sheet(sort, sort, 30), 1);
            Check.due("a cell", book.cell(sort, 29, 5), 1);
            Check.due("a cell", book.cell(sort, 0, 5), 1);
            Check.due("anew", book.sheet(sort, sort, 30), 1);
            for (int i = 0; i < 30; i++) Check.due("all 0", book.read(sort, i, 0), 0);
            Check.due("no more", book.cell(sort, 30, 0), ClauseBook.PLACE);
        }
        Check.due("of none", book.sheet(0, 0, 0), 1);
        Check.due("of none", book.cell(0, 0, 0), ClauseBook.PLACE);
        Check.due("above 30", book.sheet(0, 1, 31), ClauseBook.BAD);
        Check.due("below 0", book.sheet(0, 1, -1), ClauseBook.SIZE);
        Check.due("nothing changed", book.cell(0, 0, 0), ClauseBook.PLACE);
        Check.due("missing, n doesn't matter", book.sheet(0, -1, -5), 1);
        Check.due("missing", book.cell(0, 0, 0), ClauseBook.NOTHING);
        Check.due("missing, n doesn't matter", book.sheet(1, -1, 31), 1);
        Check.due("missing", book.cell(1, 0, 0), ClauseBook.NOTHING);
        Check.due("s", book.sheet(4, 0, 0), ClauseBook.BAD);
        Check.due("s, ahead of the size", book.sheet(-1, 0, -1), ClauseBook.BAD);
        Check.due("sort", book.sheet(0, 4, 0), ClauseBook.BAD);
        Check.due("sort", book.sheet(0, -2, -1), ClauseBook.BAD);
        Check.due("still missing", book.cell(0, 0, 0), ClauseBook.NOTHING);
        book.sheet(2, 0, 3);
        Check.due("another sort is all 0", book.read(2, 2, 0), 0);
    }

    private static ClauseBook allSorts(int n) {
        ClauseBook book = new ClauseBook();
        for (int sort = 0; sort < 4; sort++) book.sheet(sort, sort, n);
        return book;
    }

    private static void promise32Cell() {
        ClauseBook book = allSorts(3);
        book.sheet(3, -1, 0);
        Check.due("the most that is an int", book.cell(0, 0, Integer.MAX_VALUE), 1);
        Check.due("more", book.cell(0, 0, Integer.MAX_VALUE + 1L), ClauseBook.MUCH);
        Check.due("nothing changed", book.read(0, 0, 0), Integer.MAX_VALUE);
        Check.due("the least that is an int", book.cell(0, 2, Integer.MIN_VALUE), 1);
        Check.due("less", book.cell(0, 2, Integer.MIN_VALUE - 1L), ClauseBook.MUCH);
        Check.due("more, the place goes first", book.cell(0, 3, Long.MAX_VALUE), ClauseBook.PLACE);
        Check.due("longs", book.cell(1, 1, Long.MIN_VALUE), 1);
        Check.due("longs", book.read(1, 1, 0), Long.MIN_VALUE);
        Check.due("floats", book.cell(2, 1, (1L << 24) + 1), 1);
        Check.due("floats", book.read(2, 1, 2), 1L << 24);
        Check.due("place", book.cell(1, -1, 0), ClauseBook.PLACE);
        Check.due("missing", book.cell(3, -1, 0), ClauseBook.NOTHING);
        Check.due("s", book.cell(4, 0, 0), ClauseBook.BAD);
        Check.due("s", book.cell(-1, 0, 0), ClauseBook.BAD);
    }

    private static void reads(ClauseBook book, int s, long asItIs, int asInt, long asLong, double asDouble) {
        Check.due("as it is, sort " + s, book.read(s, 0, 0), asItIs);
        Check.due("as an int, sort " + s, book.read(s, 0, 1), asInt);
        Check.due("as a long, sort " + s, book.read(s, 0, 2), asLong);
        Check.due("% 7, sort " + s, book.read(s, 0, 3), Double.doubleToLongBits(asDouble % 7));
    }

    private static void promise33Read() {
        ClauseBook book = allSorts(1);
        for (long v : NUMBERS) {
            for (int s = 0; s < 4; s++) book.cell(s, 0, v);
            if (v == (int) v) reads(book, 0, v, (int) v, v, (double) v);
            reads(book, 1, v, (int) v, v, (double) v);
            float f = (float) v;
            reads(book, 2, Float.floatToIntBits(f), (int) f, (long) f, f);
            double d = (double) v;
            reads(book, 3, Double.doubleToLongBits(d), (int) d, (long) d, d);
        }
        book.cell(0, 0, -7);
        Check.due("-7 % 7 is -0.0", book.read(0, 0, 3), Long.MIN_VALUE);
    }

    private static void promise33Refused() {
        ClauseBook book = allSorts(2);
        book.sheet(3, -1, 0);
        Check.due("how", book.read(0, 0, 4), NO + ClauseBook.BAD);
        Check.due("how, missing", book.read(3, 9, -1), NO + ClauseBook.BAD);
        Check.due("s", book.read(4, 0, 0), NO + ClauseBook.BAD);
        Check.due("s", book.read(-1, 0, 0), NO + ClauseBook.BAD);
        Check.due("missing", book.read(3, -1, 0), NO + ClauseBook.NOTHING);
        Check.due("place", book.read(0, 2, 0), NO + ClauseBook.PLACE);
        Check.due("place", book.read(1, -1, 0), NO + ClauseBook.PLACE);
    }

    private static void promise34Halve() {
        ClauseBook book = allSorts(2);
        for (long v : NUMBERS) {
            for (int s = 0; s < 4; s++) {
                book.cell(s, 0, v);
                Check.due("halve", book.halve(s, 0), 1);
            }
            if (v == (int) v) Check.due("an int", book.read(0, 0, 0), (int) v / 2);
            Check.due("a long", book.read(1, 0, 0), v / 2);
            Check.due("a float", book.read(2, 0, 0), Float.floatToIntBits((float) v / 2));
            Check.due("a double", book.read(3, 0, 0), Double.doubleToLongBits((double) v / 2));
            Check.due("a double % 7", book.read(3, 0, 3), Double.doubleToLongBits((double) v / 2 % 7));
            Check.due("the next one stays", book.read(3, 1, 0), 0);
        }
        book.sheet(3, -1, 0);
        Check.due("missing", book.halve(3, 0), ClauseBook.NOTHING);
        Check.due("place", book.halve(0, 2), ClauseBook.PLACE);
        Check.due("place", book.halve(0, -1), ClauseBook.PLACE);
        Check.due("s", book.halve(4, 0), ClauseBook.BAD);
        Check.due("s", book.halve(-1, 0), ClauseBook.BAD);
    }

    /** Floats get too small at last, and are told from 0 by their sign alone then. */
    private static void promise34ToNothing() {
        for (long v : new long[] {-5, 3, -1, 1}) {
            ClauseBook floats = allSorts(1);
            ClauseBook doubles = allSorts(1);
            float f = (float) v;
            double d = (double) v;
            floats.cell(2, 0, v);
            doubles.cell(3, 0, v);
            for (int i = 0; i < 155; i++) {
                floats.halve(2, 0);
                doubles.halve(3, 0);
                f /= 2;
                d /= 2;
                Check.due("a float, halved " + i, floats.read(2, 0, 0), Float.floatToIntBits(f));
                Check.due("a double, halved " + i, doubles.read(3, 0, 0), Double.doubleToLongBits(d));
                Check.due("a float % 7, halved " + i, floats.read(2, 0, 3), Double.doubleToLongBits((double) f % 7));
            }
        }
        ClauseBook book = allSorts(1);
        double d = -3;
        book.cell(3, 0, -3);
        for (int i = 0; i < 500; i++) {
            book.halve(3, 0);
            d /= 2;
        }
        Check.due("a double, halved 500 times", book.read(3, 0, 0), Double.doubleToLongBits(d));
    }

    private static void promise35Copy() {
        for (int sort = 0; sort < 4; sort++) {
            ClauseBook book = new ClauseBook();
            book.sheet(0, sort, 6);
            book.sheet(1, sort, 4);
            for (int i = 0; i < 6; i++) book.cell(0, i, 10 + i);
            Check.due("to another", book.copy(0, 2, 1, 1, 3), 3);
            long[] other = {0, 12, 13, 14};
            for (int i = 0; i < 4; i++) Check.due("another, place " + i, book.read(1, i, 2), other[i]);
            Check.due("to itself, further on", book.copy(0, 0, 0, 1, 5), 5);
            long[] same = {10, 10, 11, 12, 13, 14};
            for (int i = 0; i < 6; i++) Check.due("itself, place " + i, book.read(0, i, 2), same[i]);
            Check.due("to itself, further back", book.copy(0, 2, 0, 0, 4), 4);
            long[] back = {11, 12, 13, 14, 13, 14};
            for (int i = 0; i < 6; i++) Check.due("itself, place " + i, book.read(0, i, 2), back[i]);
            Check.due("none, at the ends", book.copy(0, 6, 1, 4, 0), 0);
            book.cell(0, 0, -1);
            for (int i = 0; i < 155; i++) book.halve(0, 0);
            book.copy(0, 0, 1, 0, 1);
            Check.due("as they were", book.read(1, 0, 0), book.read(0, 0, 0));
        }
    }

    private static void promise35Refused() {
        ClauseBook book = allSorts(5);
        book.sheet(3, 0, 3);
        int[][] outside = {{-1, 0, 1}, {0, -1, 1}, {0, 0, -1}, {5, 0, 1}, {0, 3, 1}, {0, 0, 4}, {6, 0, 0}, {0, 4, 0}, {2, 0, 4}, {-1, 0, 0},
            {0, -1, 0}, {Integer.MAX_VALUE, 0, 1}, {1, 0, Integer.MAX_VALUE}, {Integer.MIN_VALUE, 0, Integer.MIN_VALUE}};
        for (int[] o : outside) Check.due("place", book.copy(0, o[0], 3, o[1], o[2]), ClauseBook.PLACE);
        Check.due("unlike sorts", book.copy(0, 0, 1, 0, 1), ClauseBook.KIND);
        Check.due("unlike sorts go ahead of the place", book.copy(1, 0, 2, 0, -1), ClauseBook.KIND);
        book.sheet(2, -1, 0);
        Check.due("missing", book.copy(0, 0, 2, 0, 1), ClauseBook.NOTHING);
        Check.due("missing", book.copy(2, 0, 0, 0, 1), ClauseBook.NOTHING);
        Check.due("missing, both", book.copy(2, 0, 2, 0, 0), ClauseBook.NOTHING);
        Check.due("from", book.copy(4, 0, 2, 0, 0), ClauseBook.BAD);
        Check.due("to", book.copy(0, 0, 4, 0, 0), ClauseBook.BAD);
        Check.due("from the last", book.copy(3, 0, 0, 0, 3), 3);
        Check.due("to", book.copy(2, 0, -1, 0, 0), ClauseBook.BAD);
    }
}
