import java.util.ArrayList;
import java.util.List;

/**
 * All that can be seen of a book by its face. To see it all, the book is changed at last (sorts of sheets, odds, the tape,
 * the image): so a look is the last thing that is asked of a book.
 */
final class Look {
    private static final int MOST_CALLS = 400;

    private final ClauseBook book;
    private final List<Long> seen = new ArrayList<>();

    private Look(ClauseBook book) {
        this.book = book;
    }

    static List<Long> at(ClauseBook book) {
        Look look = new Look(book);
        look.whatAnImageKeeps();
        look.sheets();
        look.hands();
        look.tape();
        look.oddsAndWait();
        look.add(book.back());
        look.whatAnImageKeeps();
        look.oddsAndWait();
        // a book answers 512 times: what is left is for making it
        if (look.seen.size() > MOST_CALLS) throw new IllegalStateException("a look of " + look.seen.size() + " calls");
        return look.seen;
    }

    private long add(long answer) {
        seen.add(answer);
        return answer;
    }

    private void whatAnImageKeeps() {
        for (int what = 0; what < 4; what++) add(book.count(what));
        add(book.price(0, 0));
        add(book.price(1, 1));
        add(book.price(1, 0));
        for (int x = 0; x < 25 && add(book.clauseOf(x, 0)) >= 0; x++) for (int what = 1; what < 4; what++) add(book.clauseOf(x, what));
        for (int bag = 0; bag < 3; bag++) for (int i = 0; i < 13 && add(book.bagOf(bag, i)) >= 0; i++) continue;
    }

    private void sheets() {
        for (int s = 0; s < 4; s++) {
            for (int i = 0; i < 31; i++) {
                long one = add(book.read(s, i, 0));
                if (one == ClauseBook.NO + ClauseBook.PLACE || one == ClauseBook.NO + ClauseBook.NOTHING) break;
            }
            for (int t = 0; t < s; t++) add(book.copy(s, 0, t, 0, 0));
            add(book.cell(s, 0, (1L << 40) + 1));
            add(book.read(s, 0, 0));
        }
    }

    private void hands() {
        for (int hand = 0; hand < 4; hand++) {
            add(book.asClause(hand, 3));
            add(book.asFraction(hand, 0));
            add(book.asFraction(hand, 1));
            add(book.hold(hand, 0, 0, 0));
        }
    }

    private void tape() {
        add(book.feed(1, '~' << 24));
        add(book.text());
    }

    private void oddsAndWait() {
        for (int i = 0; i < 24 && add(book.drop()) > 0; i++) continue;
        add(book.start(0, 1, 1));
        add(book.clause(1, 0, 0, 0));
        add(book.clause(0, 0, 0, 0));
        add(book.clause(12, 1, 0, 1));
        for (int x = 0; x <= 2; x += 2) for (int part = 0; part < 2; part++) add(book.mean(x, 0, 0, part));
    }
}
