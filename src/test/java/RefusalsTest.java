import java.util.List;
import java.util.function.Consumer;

/**
 * The refusals of promises 2 to 42, in the document's order: for each number of a call the last that is taken and the first
 * that is refused; for two refusals at once the one that stands first; and that a refused call changes nothing.
 */
public final class RefusalsTest {
    private static final int NONE = -1, BAD = -2, STATE = -3, FULL = -4, MUCH = -5, NOTHING = -11, PLACE = -12, KIND = -13, SIZE = -14;
    private static final int LEAST = Integer.MIN_VALUE, MOST = Integer.MAX_VALUE;
    private static final long LEAST_LONG = Long.MIN_VALUE, MOST_LONG = Long.MAX_VALUE;

    private static final Refusal NEW = Refusal.of(ClauseBook::new), RICH = Refusal.of(Make::rich), FULL_BOOK = Refusal.of(Make::full), TOO_MUCH = Refusal.of(Make::much);

    public static void main(String[] args) {
        aLookSeesWhatChanges();
        promises2To4();
        promises5And6();
        promise7Kind();
        promise7Numbers();
        promise7Full();
        promise8();
        promise9();
        promise10();
        promise11();
        promise12();
        promise13();
        promise14();
        promise15();
        promises16And17();
        promise18();
        promise19();
        promise20();
        promise21();
        promise22();
        promise22WhatStandsAheadCame();
        promise23();
        promise24();
        promises25To27();
        promise28();
        promise29();
        promise30();
        promise31();
        promise32();
        promise33();
        promise34();
        promise35();
        promise36();
        promise37();
        promise38();
        promise39();
        promises41And42();
        Check.end();
    }

    /** The tests below are worth as much as what a look sees. */
    private static void aLookSeesWhatChanges() {
        List<Long> before = Look.at(Make.rich());
        Check.holds("a look sees the same twice", before.equals(Look.at(Make.rich())));
        List<Consumer<ClauseBook>> changes = List.of(
            b -> b.start(11, 3, 2), b -> b.start(10, 4, 2), b -> b.start(10, 3, 1), b -> b.odds(1, 3), b -> b.odds(2, 5), b -> b.wait(7, 9), b -> b.wait(8, 8),
            b -> b.clause(1, 0, 0, 0), b -> b.drop(), b -> b.swap(6, 5, 5), b -> b.swap(6, 4, 4), b -> b.dues(0, 3, 0, 0), b -> b.feed(1, 0), b -> b.text(),
            b -> b.put(1, 0), b -> b.take(0), b -> b.pour(0, 1, 1), b -> b.sum(1), b -> Make.put(b, 1, 0, 0), b -> b.sheet(0, 0, 8), b -> b.sheet(3, 0, 0),
            b -> b.sheet(3, 1, 0), b -> b.sheet(1, -1, 0), b -> b.cell(2, 2, 1), b -> b.halve(1, 0), b -> b.copy(0, 0, 0, 1, 2), b -> b.hold(0, 1, 0, 0),
            b -> b.hold(1, 0, 0, 0), b -> b.hold(2, 2, 5, 4), b -> b.image());
        for (int i = 0; i < changes.size(); i++) {
            if (i == 17) continue; // sum() of one clause alone adds none
            ClauseBook book = Make.rich();
            changes.get(i).accept(book);
            Check.holds("a look sees change " + i, !before.equals(Look.at(book)));
        }
    }

    private static void promises2To4() {
        NEW.taken("START -99", b -> b.start(-99, 0, 0), 1).taken("START 99", b -> b.start(99, 9, 9), 1);
        RICH.due("START -100", b -> b.start(-100, 4, 4), BAD).due("START 100", b -> b.start(100, 4, 4), BAD)
            .due("START least", b -> b.start(LEAST, 4, 4), BAD).due("START most", b -> b.start(MOST, 4, 4), BAD)
            .due("UP -1", b -> b.start(20, -1, 4), BAD).due("UP 10", b -> b.start(20, 10, 4), BAD).due("UP most", b -> b.start(20, MOST, 4), BAD)
            .due("DOWN -1", b -> b.start(20, 4, -1), BAD).due("DOWN 10", b -> b.start(20, 4, 10), BAD).due("DOWN least", b -> b.start(20, 4, LEAST), BAD);
        NEW.taken("0 of 2", b -> b.odds(0, 2), 1).taken("2 of 2", b -> b.odds(2, 2), 1).taken("0 of 9", b -> b.odds(0, 9), 1).taken("9 of 9", b -> b.odds(9, 9), 1);
        RICH.due("q 1", b -> b.odds(0, 1), BAD).due("1 of 1", b -> b.odds(1, 1), BAD).due("q 10", b -> b.odds(3, 10), BAD).due("q 0", b -> b.odds(0, 0), BAD)
            .due("q least", b -> b.odds(LEAST, LEAST), BAD).due("q most", b -> b.odds(1, MOST), BAD)
            .due("p -1", b -> b.odds(-1, 5), BAD).due("p 6 of 5", b -> b.odds(6, 5), BAD).due("p 10 of 9", b -> b.odds(10, 9), BAD).due("p 3 of 2", b -> b.odds(3, 2), BAD);
        NEW.taken("1 of 1", b -> b.wait(1, 1), 1).taken("1 of 9", b -> b.wait(1, 9), 1).taken("9 of 9", b -> b.wait(9, 9), 1);
        RICH.due("b 0", b -> b.wait(0, 0), BAD).due("1 of 0", b -> b.wait(1, 0), BAD).due("b 10", b -> b.wait(1, 10), BAD).due("b least", b -> b.wait(1, LEAST), BAD)
            .due("b most", b -> b.wait(1, MOST), BAD).due("a 0", b -> b.wait(0, 4), BAD).due("a -1", b -> b.wait(-1, 4), BAD)
            .due("a 5 of 4", b -> b.wait(5, 4), BAD).due("a 10 of 9", b -> b.wait(10, 9), BAD).due("a 2 of 1", b -> b.wait(2, 1), BAD);
    }

    private static void promises5And6() {
        RICH.taken("day 0", b -> b.price(0, 0), 10).taken("day 6, spot 0", b -> b.price(6, 0), -2).taken("day 6, spot 6", b -> b.price(6, 6), 28)
            .due("day -1", b -> b.price(-1, 0), BAD).due("day 7", b -> b.price(7, 0), BAD).due("day 7, spot 7", b -> b.price(7, 7), BAD)
            .due("spot -1", b -> b.price(6, -1), BAD).due("spot 7", b -> b.price(6, 7), BAD).due("day 0, spot 1", b -> b.price(0, 1), BAD)
            .due("least", b -> b.price(LEAST, LEAST), BAD).due("most", b -> b.price(MOST, MOST), BAD);
        RICH.taken("path 0", b -> b.spotOf(0, 6), 0).taken("path 63", b -> b.spotOf(63, 6), 6).taken("day 0", b -> b.spotOf(63, 0), 0)
            .due("path -1", b -> b.spotOf(-1, 0), BAD).due("path 64", b -> b.spotOf(64, 0), BAD).due("path least", b -> b.spotOf(LEAST, 0), BAD)
            .due("day -1", b -> b.spotOf(0, -1), BAD).due("day 7", b -> b.spotOf(0, 7), BAD).due("day 32", b -> b.spotOf(1, 32), BAD);
    }

    private static void promise7Kind() {
        NEW.taken("KIND 0", b -> b.clause(0, 0, 0, 0), 0).taken("KIND 1", b -> b.clause(1, 0, 0, 0), 0);
        RICH.taken("KIND 12", b -> b.clause(12, 0, 0, 0), 13)
            .due("KIND -1", b -> b.clause(-1, 0, 0, 0), BAD).due("KIND 13", b -> b.clause(13, 0, 0, 0), BAD)
            .due("KIND least", b -> b.clause(LEAST, 0, 0, 0), BAD).due("KIND most", b -> b.clause(MOST, 0, 0, 0), BAD);
        for (int kind = 2; kind <= 12; kind++) {
            int k = kind;
            NEW.due("KIND " + k + " has none to name", b -> b.clause(k, 0, 0, 0), BAD);
        }
    }

    private static void promise7Numbers() {
        int[] least = {0, 0, 0, -9, 0, 0, 0, 0, 0, 0, 0, 0, -99};
        int[] most = {0, 0, 0, 9, 0, 0, 0, 0, 6, 0, 0, 0, 99};
        int[] names = {0, 0, 1, 1, 1, 2, 2, 2, 1, 2, 1, 1, 2};
        for (int kind = 0; kind <= 12; kind++) {
            int k = kind;
            String of = " of KIND " + k;
            RICH.taken("least n" + of, b -> b.clause(k, least[k], 0, 0), 13).due("less" + of, b -> b.clause(k, least[k] - 1, 0, 0), BAD)
                .taken("most n" + of, b -> b.clause(k, most[k], 0, 0), 13).due("more" + of, b -> b.clause(k, most[k] + 1, 0, 0), BAD)
                .due("the least int" + of, b -> b.clause(k, LEAST, 0, 0), BAD).due("the most int" + of, b -> b.clause(k, MOST, 0, 0), BAD)
                .due("c -1" + of, b -> b.clause(k, 0, -1, 0), BAD).due("c itself" + of, b -> b.clause(k, 0, 13, 0), BAD)
                .due("d -1" + of, b -> b.clause(k, 0, 0, -1), BAD).due("d itself" + of, b -> b.clause(k, 0, 0, 13), BAD);
            if (names[k] >= 1) RICH.taken("c the last" + of, b -> b.clause(k, 0, 12, 0), 13);
            else RICH.due("c, where it names none" + of, b -> b.clause(k, 0, 1, 0), BAD);
            if (names[k] == 2) RICH.taken("d the last" + of, b -> b.clause(k, 0, 0, 12), 13);
            else RICH.due("d, where it names none" + of, b -> b.clause(k, 0, 0, 1), BAD);
        }
    }

    private static void promise7Full() {
        FULL_BOOK.due("the 25th", b -> b.clause(1, 0, 0, 0), FULL).due("the 25th names the last", b -> b.clause(5, 0, 23, 23), FULL)
            .due("BAD kind ahead of FULL", b -> b.clause(13, 0, 0, 0), BAD).due("BAD n ahead of FULL", b -> b.clause(3, 10, 0, 0), BAD)
            .due("BAD c ahead of FULL", b -> b.clause(2, 0, 24, 0), BAD).due("BAD d ahead of FULL", b -> b.clause(5, 0, 0, 24), BAD)
            .taken("there is room again", b -> b.drop() * 100 + b.clause(0, 0, 0, 0), 2323);
    }

    private static void promise8() {
        RICH.taken("the first", b -> b.clauseOf(0, 0), 1).taken("the last", b -> b.clauseOf(12, 6), 3)
            .due("x -1", b -> b.clauseOf(-1, 0), BAD).due("x 13, no more", b -> b.clauseOf(13, 0), BAD).due("x 24", b -> b.clauseOf(24, 0), BAD)
            .due("x least", b -> b.clauseOf(LEAST, 0), BAD).due("x most", b -> b.clauseOf(MOST, 0), BAD)
            .due("what -1", b -> b.clauseOf(0, -1), BAD).due("what 7", b -> b.clauseOf(0, 7), BAD).due("what most", b -> b.clauseOf(0, MOST), BAD);
        NEW.due("there are none", b -> b.clauseOf(0, 0), BAD);
        FULL_BOOK.taken("the 24th", b -> b.clauseOf(23, 0), 1).due("the 25th", b -> b.clauseOf(24, 0), BAD);
        RICH.taken("c, where there is none", b -> b.clauseOf(0, 2), NONE).taken("d, where there is none", b -> b.clauseOf(2, 3), NONE)
            .taken("d of none", b -> b.clauseOf(1, 3), NONE).taken("c, where there is no d", b -> b.clauseOf(2, 2), 0);
    }

    private static void promise9() {
        NEW.due("there are none", b -> b.drop(), STATE);
        RICH.taken("there is one", b -> { while (b.count(0) > 1) b.drop(); return b.drop(); }, 0);
        Refusal.of(() -> { ClauseBook b = Make.rich(); while (b.count(0) > 0) b.drop(); return b; }).due("there are none any more", b -> b.drop(), STATE);
    }

    private static void promise10() {
        RICH.taken("KIND of two: the clause right ahead", b -> b.swap(6, 5, 5), 1).taken("the first", b -> b.swap(6, 0, 0), 1)
            .due("c itself", b -> b.swap(6, 6, 5), BAD).due("d itself", b -> b.swap(6, 5, 6), BAD).due("c a later one", b -> b.swap(6, 7, 5), BAD)
            .due("c -1", b -> b.swap(6, -1, 5), BAD).due("d -1", b -> b.swap(6, 5, -1), BAD)
            .taken("KIND of one", b -> b.swap(4, 2, 0), 1).due("its d is not 0", b -> b.swap(4, 2, 1), BAD).due("its c itself", b -> b.swap(4, 4, 0), BAD)
            .due("its c -1", b -> b.swap(4, -1, 0), BAD)
            .taken("KIND of none", b -> b.swap(1, 0, 0), 1).due("its c is not 0", b -> b.swap(1, 1, 0), BAD).due("its d is not 0", b -> b.swap(1, 0, 1), BAD)
            .due("x -1", b -> b.swap(-1, 0, 0), BAD).due("x 13", b -> b.swap(13, 0, 0), BAD).due("x most", b -> b.swap(MOST, 0, 0), BAD)
            .taken("x 12", b -> b.swap(12, 10, 0), 1);
    }

    private static void promise11() {
        RICH.taken("day 0", b -> b.value(2, 0, 0, 0), 10).taken("day 6", b -> b.value(2, 6, 6, 0), 28).taken("part 1", b -> b.value(2, 6, 0, 1), 1)
            .dueLong("x -1", b -> b.value(-1, 0, 0, 0), BAD).dueLong("x 13", b -> b.value(13, 0, 0, 0), BAD).dueLong("x least", b -> b.value(LEAST, 0, 0, 0), BAD)
            .dueLong("day -1", b -> b.value(0, -1, 0, 0), BAD).dueLong("day 7", b -> b.value(0, 7, 0, 0), BAD).dueLong("day most", b -> b.value(0, MOST, 0, 0), BAD)
            .dueLong("spot -1", b -> b.value(0, 3, -1, 0), BAD).dueLong("spot 4", b -> b.value(0, 3, 4, 0), BAD).dueLong("spot most", b -> b.value(0, 6, MOST, 0), BAD)
            .dueLong("part -1", b -> b.value(0, 0, 0, -1), BAD).dueLong("part 2", b -> b.value(0, 0, 0, 2), BAD);
        TOO_MUCH.taken("2 to the 60th", b -> b.value(10, 0, 0, 0), 1L << 60).dueLong("above", b -> b.value(11, 0, 0, 0), MUCH).dueLong("below", b -> b.value(11, 6, 6, 1), MUCH)
            .dueLong("BAD ahead of MUCH", b -> b.value(11, 0, 0, 2), BAD).dueLong("BAD spot ahead of MUCH", b -> b.value(11, 0, 1, 0), BAD);
    }

    private static void promise12() {
        // on day 5 at spot 5 the price is 25; then 28 or 23: (2 * 28 + 23) * 8 of 27
        RICH.taken("day 5", b -> b.mean(2, 5, 5, 0), 632).taken("day 5, below", b -> b.mean(2, 5, 5, 1), 27).taken("day 0", b -> b.mean(0, 0, 0, 1), 9)
            .dueLong("day 6", b -> b.mean(2, 6, 6, 0), BAD).dueLong("day 7", b -> b.mean(2, 7, 0, 0), BAD).dueLong("day -1", b -> b.mean(2, -1, 0, 0), BAD)
            .dueLong("spot -1", b -> b.mean(2, 5, -1, 0), BAD).dueLong("spot 6", b -> b.mean(2, 5, 6, 0), BAD).dueLong("day most", b -> b.mean(2, MOST, MOST, 0), BAD)
            .dueLong("x -1", b -> b.mean(-1, 0, 0, 0), BAD).dueLong("x 13", b -> b.mean(13, 0, 0, 0), BAD)
            .dueLong("part -1", b -> b.mean(0, 0, 0, -1), BAD).dueLong("part 2", b -> b.mean(0, 0, 0, 2), BAD);
        TOO_MUCH.dueLong("above", b -> b.mean(11, 5, 0, 0), MUCH).dueLong("below", b -> b.mean(11, 0, 0, 1), MUCH)
            .dueLong("BAD part ahead of MUCH", b -> b.mean(11, 0, 0, 2), BAD).dueLong("BAD day ahead of MUCH", b -> b.mean(11, 6, 0, 0), BAD)
            .dueLong("until day 3: on day 2", b -> b.mean(12, 2, 0, 0), MUCH).taken("on day 3", b -> b.mean(12, 3, 0, 0), 0);
    }

    private static void promise13() {
        RICH.taken("how 0", b -> b.valueAs(2, 0, 0, 0), 1000).taken("how 5", b -> b.valueAs(2, 0, 0, 5), Float.floatToIntBits(10f % 0.75f))
            .dueLong("how -1", b -> b.valueAs(2, 0, 0, -1), BAD).dueLong("how 6", b -> b.valueAs(2, 0, 0, 6), BAD).dueLong("how most", b -> b.valueAs(2, 0, 0, MOST), BAD)
            .dueLong("x -1", b -> b.valueAs(-1, 0, 0, 0), BAD).dueLong("x 13", b -> b.valueAs(13, 0, 0, 0), BAD)
            .dueLong("day -1", b -> b.valueAs(0, -1, 0, 0), BAD).dueLong("day 7", b -> b.valueAs(0, 7, 0, 0), BAD)
            .dueLong("spot -1", b -> b.valueAs(0, 1, -1, 0), BAD).dueLong("spot 2", b -> b.valueAs(0, 1, 2, 0), BAD);
        for (int how = 0; how < 6; how++) {
            int h = how;
            TOO_MUCH.dueLong("how " + h, b -> b.valueAs(11, 0, 0, h), MUCH);
        }
        TOO_MUCH.dueLong("BAD ahead of MUCH", b -> b.valueAs(11, 0, 0, 6), BAD);
    }

    private static void promise14() {
        RICH.taken("on the last day of both", b -> b.chosen(7, 2, 0), 3).due("neither can be had", b -> b.chosen(7, 3, 0), STATE).due("neither on day 6", b -> b.chosen(6, 6, 6), STATE)
            .due("x -1", b -> b.chosen(-1, 0, 0), BAD).due("x 13", b -> b.chosen(13, 0, 0), BAD).due("day -1", b -> b.chosen(6, -1, 0), BAD)
            .due("day 7: BAD ahead of STATE", b -> b.chosen(6, 7, 0), BAD).due("spot -1", b -> b.chosen(6, 2, -1), BAD).due("spot 3", b -> b.chosen(6, 2, 3), BAD)
            .due("spot 4: BAD ahead of STATE", b -> b.chosen(6, 3, 4), BAD);
        for (int x : new int[] {0, 1, 2, 3, 4, 5, 8, 9, 10, 11, 12}) RICH.due("neither BETTER nor WORSE: " + x, b -> b.chosen(x, 0, 0), BAD);
        RICH.due("neither BETTER nor WORSE, behind its END", b -> b.chosen(3, 3, 0), BAD);
        TOO_MUCH.due("BETTER", b -> b.chosen(13, 3, 0), MUCH).due("WORSE", b -> b.chosen(15, 3, 0), MUCH).taken("just one can be had: d", b -> b.chosen(13, 4, 0), 0)
            .taken("just one can be had: c", b -> b.chosen(15, 4, 0), 0).due("BAD ahead of MUCH", b -> b.chosen(13, 3, 4), BAD).due("not BETTER, and MUCH", b -> b.chosen(11, 0, 0), BAD);
    }

    private static void promise15() {
        RICH.taken("on its END", b -> b.taken(4, 2, 63), 2).due("behind it", b -> b.taken(4, 3, 63), STATE).due("on day 6", b -> b.taken(4, 6, 0), STATE)
            .due("x -1", b -> b.taken(-1, 0, 0), BAD).due("x 13", b -> b.taken(13, 0, 0), BAD).due("day -1", b -> b.taken(4, -1, 0), BAD)
            .due("day 7: BAD ahead of STATE", b -> b.taken(4, 7, 0), BAD).due("path -1", b -> b.taken(4, 0, -1), BAD).due("path 64", b -> b.taken(4, 0, 64), BAD)
            .due("path 64: BAD ahead of STATE", b -> b.taken(4, 3, 64), BAD).due("not FREE, behind its END", b -> b.taken(5, 3, 0), BAD);
        for (int x = 0; x < 13; x++) {
            int y = x;
            if (x != 4) RICH.due("not FREE: " + x, b -> b.taken(y, 0, 0), BAD);
        }
        TOO_MUCH.due("MUCH", b -> b.taken(14, 2, 0), MUCH).taken("on its END nothing is needed", b -> b.taken(14, 3, 0), 3).due("STATE", b -> b.taken(14, 4, 0), STATE)
            .due("BAD ahead of MUCH", b -> b.taken(14, 0, 64), BAD).due("not FREE, and MUCH", b -> b.taken(11, 0, 0), BAD);
    }

    private static void promises16And17() {
        RICH.taken("0 and the last", b -> b.alike(0, 12), 0).taken("itself", b -> b.alike(12, 12), 1)
            .due("x -1", b -> b.alike(-1, 0), BAD).due("x 13", b -> b.alike(13, 0), BAD).due("y -1", b -> b.alike(0, -1), BAD).due("y 13", b -> b.alike(0, 13), BAD);
        TOO_MUCH.due("MUCH of x", b -> b.alike(11, 0), MUCH).due("MUCH of y", b -> b.alike(0, 11), MUCH).due("MUCH, and ENDS unlike", b -> b.alike(12, 0), MUCH)
            .due("BAD y ahead of MUCH", b -> b.alike(11, 16), BAD).due("BAD x ahead of MUCH", b -> b.alike(16, 11), BAD);
        RICH.taken("no SPOT", b -> b.unlike(12, 12), NONE).taken("the first SPOT", b -> b.unlike(0, 2), 0)
            .due("x -1", b -> b.unlike(-1, 0), BAD).due("x 13", b -> b.unlike(13, 0), BAD).due("y -1", b -> b.unlike(0, -1), BAD).due("y 13", b -> b.unlike(0, 13), BAD);
        TOO_MUCH.due("MUCH of x", b -> b.unlike(11, 0), MUCH).due("MUCH of y", b -> b.unlike(0, 12), MUCH)
            .due("BAD y ahead of MUCH", b -> b.unlike(11, 16), BAD).due("BAD x ahead of MUCH", b -> b.unlike(16, 11), BAD);
    }

    private static void promise18() {
        RICH.taken("day 0", b -> b.most(2, 0), 0).taken("day 6", b -> b.most(2, 6), 6).due("x -1", b -> b.most(-1, 0), BAD).due("x 13", b -> b.most(13, 0), BAD)
            .due("day -1", b -> b.most(2, -1), BAD).due("day 7", b -> b.most(2, 7), BAD);
        TOO_MUCH.due("MUCH on day 0", b -> b.most(12, 0), MUCH).due("MUCH on day 3", b -> b.most(12, 3), MUCH).taken("behind the END", b -> b.most(12, 4), 0)
            .due("BAD ahead of MUCH", b -> b.most(11, 7), BAD);
    }

    private static void promise19() {
        RICH.taken("day 0, path 0, on 0", b -> b.due(2, 0, 0, 0), 10).taken("day 6, path 63, on 6", b -> b.due(2, 6, 63, 6), 28).taken("on another DAY", b -> b.due(2, 6, 63, 0), 0)
            .dueLong("x -1", b -> b.due(-1, 0, 0, 0), BAD).dueLong("x 13", b -> b.due(13, 0, 0, 0), BAD).dueLong("day -1", b -> b.due(0, -1, 0, 0), BAD)
            .dueLong("day 7", b -> b.due(0, 7, 0, 0), BAD).dueLong("path -1", b -> b.due(0, 0, -1, 0), BAD).dueLong("path 64", b -> b.due(0, 0, 64, 0), BAD)
            .dueLong("on -1", b -> b.due(0, 0, 0, -1), BAD).dueLong("on 7", b -> b.due(0, 0, 0, 7), BAD);
        TOO_MUCH.taken("2 to the 60th", b -> b.due(10, 0, 0, 0), 1L << 60).dueLong("an m", b -> b.due(11, 0, 0, 0), MUCH).dueLong("MUCH of any DAY", b -> b.due(11, 0, 0, 6), MUCH)
            .dueLong("what is CHOSEN", b -> b.due(13, 0, 0, 0), MUCH).dueLong("when it is TAKEN", b -> b.due(14, 0, 0, 0), MUCH)
            .dueLong("BAD day ahead of MUCH", b -> b.due(11, 0, 0, 7), BAD).dueLong("BAD path ahead of MUCH", b -> b.due(11, 0, 64, 0), BAD);
    }

    private static void promise20() {
        RICH.taken("day 0", b -> b.dueDays(0, 0, 0), 1).taken("day 6", b -> b.dueDays(0, 6, 63), 64).taken("NOTHING", b -> b.dueDays(1, 0, 0), 0)
            .due("x -1", b -> b.dueDays(-1, 0, 0), BAD).due("x 13", b -> b.dueDays(13, 0, 0), BAD).due("day -1", b -> b.dueDays(0, -1, 0), BAD)
            .due("day 7", b -> b.dueDays(0, 7, 0), BAD).due("path -1", b -> b.dueDays(0, 0, -1), BAD).due("path 64", b -> b.dueDays(0, 0, 64), BAD);
        TOO_MUCH.due("MUCH", b -> b.dueDays(11, 0, 0), MUCH).due("BAD day ahead of MUCH", b -> b.dueDays(11, 7, 0), BAD).due("BAD path ahead of MUCH", b -> b.dueDays(11, 0, 64), BAD);
    }

    private static void promise21() {
        RICH.taken("part 0", b -> b.failed(12, 0, 0, 0, 0), 0).taken("part 9", b -> b.failed(12, 0, 0, 0, 9), 9).taken("on 6", b -> b.failed(12, 0, 0, 6, 0), 9)
            .taken("on 6, day 6", b -> b.failed(12, 6, 63, 6, 4), 4).dueLong("part -1", b -> b.failed(12, 0, 0, 0, -1), BAD).dueLong("part 10", b -> b.failed(12, 0, 0, 0, 10), BAD)
            .dueLong("on -1", b -> b.failed(12, 0, 0, -1, 0), BAD).dueLong("on 7", b -> b.failed(12, 0, 0, 7, 0), BAD)
            .dueLong("x -1", b -> b.failed(-1, 0, 0, 0, 0), BAD).dueLong("x 13", b -> b.failed(13, 0, 0, 0, 0), BAD)
            .dueLong("day -1", b -> b.failed(0, -1, 0, 0, 0), BAD).dueLong("day 7", b -> b.failed(0, 7, 0, 0, 0), BAD)
            .dueLong("path -1", b -> b.failed(0, 0, -1, 0, 0), BAD).dueLong("path 64", b -> b.failed(0, 0, 64, 0, 0), BAD);
        TOO_MUCH.dueLong("DUES", b -> b.failed(11, 0, 0, 0, 0), MUCH).taken("7 times 2 to the 60th", b -> b.failed(10, 0, 0, 0, 7), (7L << 60) / 9)
            .dueLong("8 times 2 to the 60th", b -> b.failed(10, 0, 0, 0, 8), MUCH).taken("8 times nothing", b -> b.failed(10, 0, 0, 1, 8), 1L << 60)
            .dueLong("BAD part ahead of MUCH", b -> b.failed(11, 0, 0, 0, 10), BAD).dueLong("BAD on ahead of MUCH", b -> b.failed(11, 0, 0, 7, 0), BAD);
    }

    private static void promise22() {
        RICH.taken("ints", b -> b.dues(2, 0, 0, 0), 7).taken("7 longs", b -> b.dues(2, 6, 63, 1), 7)
            .due("x -1", b -> b.dues(-1, 0, 0, 0), BAD).due("x 13", b -> b.dues(13, 0, 0, 0), BAD).due("day -1", b -> b.dues(0, -1, 0, 0), BAD)
            .due("day 7", b -> b.dues(0, 7, 0, 0), BAD).due("path -1", b -> b.dues(0, 0, -1, 0), BAD).due("path 64", b -> b.dues(0, 0, 64, 0), BAD)
            .due("sheet -1", b -> b.dues(0, 0, 0, -1), BAD).due("sheet 4", b -> b.dues(0, 0, 0, 4), BAD).due("sheet most", b -> b.dues(0, 0, 0, MOST), BAD)
            .due("missing", b -> b.dues(2, 0, 0, 3), NOTHING).due("BAD x ahead of NOTHING", b -> b.dues(13, 0, 0, 3), BAD).due("BAD day ahead of NOTHING", b -> b.dues(0, 7, 0, 3), BAD)
            .due("three floats", b -> b.dues(2, 0, 0, 2), PLACE).due("three floats, nothing falls due", b -> b.dues(1, 0, 0, 2), PLACE);
        TOO_MUCH.due("DUES, ints", b -> b.dues(11, 0, 0, 0), MUCH).due("DUES, longs", b -> b.dues(11, 0, 0, 3), MUCH).due("BAD ahead of MUCH", b -> b.dues(11, 0, 0, 4), BAD)
            .due("NOTHING ahead of MUCH", b -> b.dues(11, 0, 0, 2), NOTHING).due("MUCH ahead of PLACE", b -> b.dues(11, 0, 0, 1), MUCH)
            .due("PLACE ahead of what is no int", b -> b.dues(10, 0, 0, 1), PLACE).due("what is no int on DAY 0", b -> b.dues(10, 0, 0, 0), MUCH)
            .taken("longs", b -> b.dues(10, 0, 0, 3), 7);
    }

    /** The one refusal that changes something: what stands ahead came. 64 to the 5th is 2 to the 30th. */
    private static void promise22WhatStandsAheadCame() {
        ClauseBook book = Make.much();
        int twice = book.clause(3, 2, 5, 0);
        int minus = book.clause(3, -2, 5, 0);
        int less = book.clause(2, 0, 0, 0);
        int most = book.clause(5, 0, twice, less);
        int all = book.clause(5, 0, minus, less);
        Check.due("2 to the 31st is no int", book.dues(twice, 2, 0, 0), MUCH);
        long[] want = {0, 0, -7, -8, -9, -10, -11};
        for (int i = 0; i < 7; i++) Check.due("what stands ahead of DAY 2 came: " + i, book.read(0, i, 0), want[i]);
        Check.due("2 to the 31st less 1 is one", book.dues(most, 3, 0, 0), 7);
        Check.due("it came", book.read(0, 3, 0), MOST);
        Check.due("all behind came", book.read(0, 6, 0), 0);
        Check.due("-2 to the 31st is one", book.dues(minus, 5, 0, 0), 7);
        Check.due("it came", book.read(0, 5, 0), LEAST);
        Check.due("less by 1 is none", book.dues(all, 6, 0, 0), MUCH);
        Check.due("all ahead came", book.read(0, 5, 0), 0);
        Check.due("it did not", book.read(0, 6, 0), 0);
    }

    private static void promise23() {
        RICH.taken("n 1", b -> b.feed(1, 0), 5).taken("n 4", b -> b.feed(4, 0), 8).due("n 0", b -> b.feed(0, -1), BAD).due("n 5", b -> b.feed(5, -1), BAD)
            .due("n -1", b -> b.feed(-1, -1), BAD).due("n most", b -> b.feed(MOST, -1), BAD).due("n least", b -> b.feed(LEAST, -1), BAD);
        Refusal nearlyFull = Refusal.of(() -> { ClauseBook b = Make.rich(); for (int i = 0; i < 28; i++) b.feed(4, 0x20202020); b.feed(1, 'x' << 24); return b; });
        nearlyFull.taken("117 and 3", b -> b.feed(3, 0x20202020), 120).due("117 and 4", b -> b.feed(4, 0x20202020), FULL).due("BAD ahead of FULL", b -> b.feed(5, 0), BAD);
        Refusal full = Refusal.of(() -> { ClauseBook b = new ClauseBook(); for (int i = 0; i < 30; i++) b.feed(4, 0x20202020); return b; });
        full.due("120 and 1", b -> b.feed(1, 0), FULL).due("120 and 4", b -> b.feed(4, 0), FULL).due("BAD ahead of FULL", b -> b.feed(0, 0), BAD)
            .taken("120 bytes are read", b -> b.text(), -220).taken("then there is room", b -> b.text() + b.feed(4, 0), -216);
    }

    /** With a FAULT nothing comes of it; but the tape is empty then, so both books had their texts. */
    private static void promise24() {
        for (String text : new String[] {"", " ", "given", "xx", "both one xx", "scaled 10 one", "one one", "where 3 both one one"}) {
            ClauseBook told = Make.rich();
            told.text();
            Make.told(told, text);
            ClauseBook other = Make.rich();
            other.text();
            Check.due("'" + text + "' leaves the clauses", told.count(0), 14);
            Check.holds("'" + text + "' leaves all as it was", Look.at(told).equals(Look.at(other)));
        }
    }

    private static void promises25To27() {
        RICH.taken("bag 0", b -> b.put(0, 0), 4).taken("bag 1, the last clause", b -> b.put(1, 12), 2).due("bag -1", b -> b.put(-1, 0), BAD).due("bag 3", b -> b.put(3, 0), BAD)
            .due("x -1", b -> b.put(0, -1), BAD).due("x 13", b -> b.put(0, 13), BAD).due("x most", b -> b.put(0, MOST), BAD).due("the 13th", b -> b.put(2, 0), FULL)
            .due("BAD x ahead of FULL", b -> b.put(2, 13), BAD).taken("the 12th", b -> b.take(2) * 100 + b.put(2, 5), 12);
        RICH.taken("bag 2", b -> b.take(2), 0).taken("a number of none", b -> b.take(0), 13).due("bag -1", b -> b.take(-1), BAD).due("bag 3", b -> b.take(3), BAD).due("bag most", b -> b.take(MOST), BAD);
        NEW.due("bag 0 is empty", b -> b.take(0), NONE).due("bag 1 is empty", b -> b.take(1), NONE).due("bag 2 is empty", b -> b.take(2), NONE).due("BAD", b -> b.take(3), BAD);
        Refusal.of(() -> { ClauseBook b = Make.rich(); b.take(1); return b; }).due("it is empty again", b -> b.take(1), NONE);
        RICH.taken("place 0", b -> b.bagOf(0, 0), 2).taken("place 2", b -> b.bagOf(0, 2), 13).taken("place 11", b -> b.bagOf(2, 11), 0)
            .due("place -1", b -> b.bagOf(0, -1), PLACE).due("place 3", b -> b.bagOf(0, 3), PLACE).due("place 12", b -> b.bagOf(2, 12), PLACE)
            .due("place most", b -> b.bagOf(2, MOST), PLACE).due("place least", b -> b.bagOf(2, LEAST), PLACE)
            .due("bag -1", b -> b.bagOf(-1, 0), BAD).due("bag 3", b -> b.bagOf(3, 0), BAD).due("BAD ahead of PLACE", b -> b.bagOf(3, -1), BAD);
        NEW.due("an empty bag", b -> b.bagOf(1, 0), PLACE);
    }

    private static void promise28() {
        RICH.taken("kind 0", b -> b.pour(2, 0, 0), 0).taken("kind 12", b -> b.pour(2, 1, 12), 0).taken("-1: all", b -> b.pour(0, 1, -1), 3)
            .due("kind -2", b -> b.pour(0, 1, -2), BAD).due("kind 13", b -> b.pour(0, 1, 13), BAD).due("kind most", b -> b.pour(0, 1, MOST), BAD)
            .due("from -1", b -> b.pour(-1, 1, -1), BAD).due("from 3", b -> b.pour(3, 1, -1), BAD).due("to -1", b -> b.pour(0, -1, -1), BAD).due("to 3", b -> b.pour(0, 3, -1), BAD)
            .due("one and the same", b -> b.pour(0, 0, -1), BAD).due("one and the same, empty of that", b -> b.pour(1, 1, 5), BAD)
            .due("no room: none comes", b -> b.pour(0, 2, -1), 0).due("none is of that KIND", b -> b.pour(0, 1, 3), 0);
        NEW.due("from an empty one", b -> b.pour(0, 1, -1), 0);
        RICH.taken("room for 9 of 12", b -> b.pour(2, 0, -1), 9).taken("room for all of 6", b -> b.pour(2, 0, 4), 6);
    }

    private static void promise29() {
        RICH.taken("bag 0", b -> b.bagBest(0, 0, 0), 0).taken("bag 2, day 6", b -> b.bagBest(2, 6, 0), 1).due("bag -1", b -> b.bagBest(-1, 0, 0), BAD).due("bag 3", b -> b.bagBest(3, 0, 0), BAD)
            .due("day -1", b -> b.bagBest(0, -1, 0), BAD).due("day 7", b -> b.bagBest(0, 7, 0), BAD).due("spot -1", b -> b.bagBest(0, 3, -1), BAD).due("spot 4", b -> b.bagBest(0, 3, 4), BAD);
        NEW.due("empty", b -> b.bagBest(0, 0, 0), NONE).due("BAD ahead of NONE", b -> b.bagBest(0, 0, 1), BAD);
        Refusal none = Refusal.of(() -> { ClauseBook b = Make.rich(); b.pour(0, 1, 4); b.pour(0, 1, 1); return b; });
        none.due("a number of none alone", b -> b.bagBest(0, 0, 0), NONE).due("BAD ahead of NONE", b -> b.bagBest(0, 7, 0), BAD);
        TOO_MUCH.due("MUCH of one of two", b -> b.bagBest(0, 0, 0), MUCH).due("MUCH of one alone", b -> b.bagBest(1, 3, 0), MUCH).taken("behind its END", b -> b.bagBest(1, 4, 0), 0)
            .due("NONE, not MUCH", b -> b.bagBest(2, 0, 0), NONE).due("BAD ahead of MUCH", b -> b.bagBest(0, 0, 1), BAD);
    }

    private static void promise30() {
        NEW.due("empty", b -> b.sum(0), NONE).due("empty, bag 2", b -> b.sum(2), NONE).due("bag -1", b -> b.sum(-1), BAD).due("bag 3", b -> b.sum(3), BAD).due("bag least", b -> b.sum(LEAST), BAD);
        RICH.due("a number of none, the last", b -> b.sum(0), NONE).due("one alone: none comes", b -> b.sum(1), 0).taken("just room: 13 and 11", b -> b.sum(2), 23);
        Refusal noRoom = Refusal.of(() -> { ClauseBook b = Make.rich(); b.clause(1, 0, 0, 0); return b; });
        noRoom.due("14 and 11", b -> b.sum(2), FULL).taken("13 is one again: 14 and 2", b -> b.sum(0), 15);
        Refusal none = Refusal.of(() -> { ClauseBook b = Make.full(); Make.put(b, 0, 23, 0, 0); Make.put(b, 1, 23); Make.put(b, 2, 0); b.drop(); return b; });
        none.due("NONE ahead of FULL", b -> b.sum(0), NONE).due("one alone, of none", b -> b.sum(1), NONE).due("one alone", b -> b.sum(2), 0).due("BAD", b -> b.sum(3), BAD);
        Refusal full = Refusal.of(() -> { ClauseBook b = Make.full(); Make.put(b, 0, 23); Make.put(b, 1, 0, 1); return b; });
        full.due("one alone of 24", b -> b.sum(0), 23).due("two of 24", b -> b.sum(1), FULL).taken("two of 23", b -> b.drop() * 100 + b.sum(1), 2323);
    }

    private static void promise31() {
        NEW.taken("none", b -> b.sheet(0, 0, 0), 1).taken("30", b -> b.sheet(3, 3, 30), 1).taken("missing, n -1", b -> b.sheet(0, -1, -1), 1).taken("missing, n 31", b -> b.sheet(0, -1, 31), 1);
        RICH.due("n 31", b -> b.sheet(0, 1, 31), BAD).due("n most", b -> b.sheet(0, 1, MOST), BAD).due("n -1", b -> b.sheet(0, 1, -1), SIZE).due("n least", b -> b.sheet(0, 1, LEAST), SIZE)
            .due("s -1", b -> b.sheet(-1, 1, 5), BAD).due("s 4", b -> b.sheet(4, 1, 5), BAD).due("sort -2", b -> b.sheet(0, -2, 5), BAD).due("sort 4", b -> b.sheet(0, 4, 5), BAD)
            .due("s -1, missing", b -> b.sheet(-1, -1, 0), BAD).due("s 4, missing", b -> b.sheet(4, -1, 0), BAD)
            .due("BAD s ahead of SIZE", b -> b.sheet(4, 1, -1), BAD).due("BAD sort ahead of SIZE", b -> b.sheet(0, 4, -1), BAD).due("BAD sort -2 ahead of SIZE", b -> b.sheet(0, -2, -1), BAD);
    }

    private static void promise32() {
        RICH.taken("place 0", b -> b.cell(0, 0, 1), 1).taken("place 7", b -> b.cell(0, 7, 1), 1).due("place -1", b -> b.cell(0, -1, 1), PLACE).due("place 8", b -> b.cell(0, 8, 1), PLACE)
            .due("place most", b -> b.cell(1, MOST, 1), PLACE).due("place least", b -> b.cell(2, LEAST, 1), PLACE).due("s -1", b -> b.cell(-1, 0, 1), BAD).due("s 4", b -> b.cell(4, 0, 1), BAD)
            .due("missing", b -> b.cell(3, 0, 1), NOTHING).due("BAD ahead of all", b -> b.cell(4, -1, MOST_LONG), BAD).due("NOTHING ahead of PLACE", b -> b.cell(3, -1, MOST_LONG), NOTHING)
            .due("PLACE ahead of MUCH", b -> b.cell(0, 8, MOST_LONG), PLACE).taken("the most int", b -> b.cell(0, 0, MOST), 1).due("1 more", b -> b.cell(0, 0, MOST + 1L), MUCH)
            .taken("the least int", b -> b.cell(0, 0, LEAST), 1).due("1 less", b -> b.cell(0, 0, LEAST - 1L), MUCH).due("what a cast would take for 5", b -> b.cell(0, 0, (1L << 32) + 5), MUCH)
            .due("the least long", b -> b.cell(0, 0, LEAST_LONG), MUCH);
        for (int s = 1; s < 3; s++) {
            int t = s;
            RICH.taken("the most long, sort " + s, b -> b.cell(t, 0, MOST_LONG), 1).taken("the least long, sort " + s, b -> b.cell(t, 0, LEAST_LONG), 1);
        }
        Refusal.of(() -> { ClauseBook b = new ClauseBook(); b.sheet(0, 1, 0); return b; }).due("a row of none", b -> b.cell(0, 0, 0), PLACE);
    }

    private static void promise33() {
        RICH.taken("place 0", b -> b.read(0, 0, 0), 7).taken("place 7", b -> b.read(0, 7, 3), 0).taken("how 3", b -> b.read(1, 1, 3), Double.doubleToLongBits(117 % 7))
            .dueLong("how -1", b -> b.read(0, 0, -1), BAD).dueLong("how 4", b -> b.read(0, 0, 4), BAD).dueLong("s -1", b -> b.read(-1, 0, 0), BAD).dueLong("s 4", b -> b.read(4, 0, 0), BAD)
            .dueLong("missing", b -> b.read(3, 0, 0), NOTHING).dueLong("place -1", b -> b.read(0, -1, 0), PLACE).dueLong("place 8", b -> b.read(0, 8, 0), PLACE)
            .dueLong("place 3", b -> b.read(2, 3, 0), PLACE).dueLong("place most", b -> b.read(1, MOST, 0), PLACE).dueLong("BAD how ahead of NOTHING", b -> b.read(3, 0, 4), BAD)
            .dueLong("BAD how ahead of PLACE", b -> b.read(0, 8, 4), BAD).dueLong("NOTHING ahead of PLACE", b -> b.read(3, -1, 0), NOTHING);
        NEW.dueLong("all are missing at first", b -> b.read(0, 0, 0), NOTHING);
    }

    private static void promise34() {
        RICH.taken("place 0", b -> b.halve(0, 0), 1).taken("place 7", b -> b.halve(0, 7), 1).due("place -1", b -> b.halve(0, -1), PLACE).due("place 8", b -> b.halve(0, 8), PLACE)
            .due("place 3", b -> b.halve(2, 3), PLACE).due("place most", b -> b.halve(1, MOST), PLACE).due("s -1", b -> b.halve(-1, 0), BAD).due("s 4", b -> b.halve(4, 0), BAD)
            .due("missing", b -> b.halve(3, 0), NOTHING).due("BAD ahead of PLACE", b -> b.halve(4, -1), BAD).due("NOTHING ahead of PLACE", b -> b.halve(3, -1), NOTHING);
    }

    private static void promise35() {
        Refusal two = Refusal.of(() -> { ClauseBook b = Make.rich(); b.sheet(3, 0, 5); b.cell(3, 4, 99); return b; });
        two.taken("all 5", b -> b.copy(3, 0, 0, 3, 5), 5).taken("all 8 onto themselves", b -> b.copy(0, 0, 0, 0, 8), 8).taken("none, at both ends", b -> b.copy(0, 8, 3, 5, 0), 0)
            .due("n 6 of 5", b -> b.copy(3, 0, 0, 0, 6), PLACE).due("n 6 to 5", b -> b.copy(0, 0, 3, 0, 6), PLACE).due("i -1", b -> b.copy(3, -1, 0, 0, 1), PLACE)
            .due("j -1", b -> b.copy(3, 0, 0, -1, 1), PLACE).due("i 5", b -> b.copy(3, 5, 0, 0, 1), PLACE).due("j 8", b -> b.copy(3, 0, 0, 8, 1), PLACE)
            .due("i 1, n 5", b -> b.copy(3, 1, 0, 0, 5), PLACE).due("j 4, n 5", b -> b.copy(3, 0, 0, 4, 5), PLACE).due("n -1", b -> b.copy(3, 1, 0, 1, -1), PLACE)
            .due("n least", b -> b.copy(3, 0, 0, 0, LEAST), PLACE).due("none, i 6", b -> b.copy(3, 6, 0, 0, 0), PLACE).due("none, j 9", b -> b.copy(3, 0, 0, 9, 0), PLACE)
            .due("none, i -1", b -> b.copy(3, -1, 0, 0, 0), PLACE).due("i and n wrap around", b -> b.copy(3, MOST, 0, 0, 2), PLACE).due("n and j wrap around", b -> b.copy(3, 0, 0, 2, MOST), PLACE);
        RICH.due("from -1", b -> b.copy(-1, 0, 0, 0, 0), BAD).due("from 4", b -> b.copy(4, 0, 0, 0, 0), BAD).due("to -1", b -> b.copy(0, 0, -1, 0, 0), BAD).due("to 4", b -> b.copy(0, 0, 4, 0, 0), BAD)
            .due("from is missing", b -> b.copy(3, 0, 0, 0, 1), NOTHING).due("to is missing", b -> b.copy(0, 0, 3, 0, 1), NOTHING).due("both are", b -> b.copy(3, 0, 3, 0, 1), NOTHING)
            .due("ints, longs", b -> b.copy(0, 0, 1, 0, 1), KIND).due("longs, floats", b -> b.copy(1, 0, 2, 0, 1), KIND).due("floats, ints: none", b -> b.copy(2, 0, 0, 0, 0), KIND)
            .due("BAD ahead of NOTHING", b -> b.copy(3, 0, 4, 0, 0), BAD).due("NOTHING ahead of PLACE", b -> b.copy(3, -1, 0, 0, -1), NOTHING).due("KIND ahead of PLACE", b -> b.copy(0, 0, 1, 0, -1), KIND);
    }

    private static void promise36() {
        RICH.taken("hand 0", b -> b.hold(0, 0, 0, 0), 0).taken("hand 3", b -> b.hold(3, 0, 0, 0), 1).taken("CLAUSE 12", b -> b.hold(2, 1, 12, LEAST_LONG), 2)
            .taken("w 1", b -> b.hold(1, 2, 5, 1), 1).taken("w most", b -> b.hold(1, 2, 5, MOST_LONG), 1).taken("v least but 1", b -> b.hold(1, 2, -9223372036854775807L, 1), 1)
            .taken("v most", b -> b.hold(1, 2, MOST_LONG, 1), 1).taken("v, w don't matter", b -> b.hold(2, 0, LEAST_LONG, LEAST_LONG), 2)
            .due("hand -1", b -> b.hold(-1, 0, 0, 1), BAD).due("hand 4", b -> b.hold(4, 0, 0, 1), BAD).due("sort -1", b -> b.hold(2, -1, 0, 1), BAD).due("sort 3", b -> b.hold(2, 3, 0, 1), BAD)
            .due("CLAUSE -1", b -> b.hold(2, 1, -1, 1), BAD).due("CLAUSE 13", b -> b.hold(2, 1, 13, 1), BAD).due("what a cast would take for 0", b -> b.hold(2, 1, 1L << 32, 1), BAD)
            .due("w 0", b -> b.hold(2, 2, 7, 0), BAD).due("w -1", b -> b.hold(2, 2, 7, -1), BAD).due("w least", b -> b.hold(2, 2, 7, LEAST_LONG), BAD).due("v least", b -> b.hold(2, 2, LEAST_LONG, 1), BAD)
            .due("v least, w 2", b -> b.hold(2, 2, LEAST_LONG, 2), BAD).due("a CLAUSE, w 0", b -> b.hold(1, 2, 0, 0), BAD);
        NEW.due("there are no CLAUSES", b -> b.hold(0, 1, 0, 1), BAD);
    }

    private static void promise37() {
        RICH.taken("kind 1", b -> b.asClause(1, 1), 11).taken("kind 3", b -> b.asClause(1, 3), 11).due("kind -1", b -> b.asClause(1, -1), BAD).due("kind 4", b -> b.asClause(1, 4), BAD)
            .due("hand -1", b -> b.asClause(-1, 3), BAD).due("hand 4", b -> b.asClause(4, 3), BAD).due("nothing", b -> b.asClause(0, 3), NOTHING).due("no more", b -> b.asClause(3, 3), NOTHING)
            .due("a FRACTION", b -> b.asClause(2, 3), KIND).due("it names one, not none", b -> b.asClause(1, 0), KIND).due("it names one, not two", b -> b.asClause(1, 2), KIND)
            .due("BAD ahead of NOTHING", b -> b.asClause(0, 4), BAD).due("BAD ahead of KIND", b -> b.asClause(2, 4), BAD).due("NOTHING ahead of KIND: it named one", b -> b.asClause(3, 2), NOTHING);
    }

    private static void promise38() {
        RICH.taken("part 0", b -> b.asFraction(2, 0), 5).taken("part 1", b -> b.asFraction(2, 1), 3).dueLong("part -1", b -> b.asFraction(2, -1), BAD).dueLong("part 2", b -> b.asFraction(2, 2), BAD)
            .dueLong("hand -1", b -> b.asFraction(-1, 0), BAD).dueLong("hand 4", b -> b.asFraction(4, 0), BAD).dueLong("nothing", b -> b.asFraction(0, 0), NOTHING)
            .dueLong("a CLAUSE", b -> b.asFraction(1, 0), KIND).dueLong("BAD ahead of NOTHING", b -> b.asFraction(0, 2), BAD).dueLong("BAD ahead of KIND", b -> b.asFraction(1, 2), BAD);
    }

    private static void promise39() {
        RICH.taken("1 against 5 of 3", b -> b.compare(2, 0, 0, 0), -1).taken("10 against 5 of 3", b -> b.compare(2, 2, 0, 0), 1)
            .due("hand -1", b -> b.compare(-1, 0, 0, 0), BAD).due("hand 4", b -> b.compare(4, 0, 0, 0), BAD).due("x -1", b -> b.compare(2, -1, 0, 0), BAD).due("x 13", b -> b.compare(2, 13, 0, 0), BAD)
            .due("day -1", b -> b.compare(2, 0, -1, 0), BAD).due("day 7", b -> b.compare(2, 0, 7, 0), BAD).due("spot -1", b -> b.compare(2, 0, 3, -1), BAD).due("spot 4", b -> b.compare(2, 0, 3, 4), BAD)
            .due("nothing", b -> b.compare(0, 0, 0, 0), NOTHING).due("a CLAUSE", b -> b.compare(1, 0, 0, 0), KIND)
            .due("BAD ahead of NOTHING", b -> b.compare(0, 13, 0, 0), BAD).due("BAD ahead of KIND", b -> b.compare(1, 0, 0, 1), BAD);
        TOO_MUCH.due("MUCH", b -> b.compare(2, 11, 0, 0), MUCH).taken("2 to the 60th against 1 of 2", b -> b.compare(2, 10, 0, 0), 1).due("NOTHING ahead of MUCH", b -> b.compare(0, 11, 0, 0), NOTHING)
            .due("KIND ahead of MUCH", b -> b.compare(1, 11, 0, 0), KIND).due("BAD ahead of MUCH", b -> b.compare(2, 11, 7, 0), BAD);
    }

    private static void promises41And42() {
        NEW.due("there is no image", b -> b.back(), STATE).taken("there is one, of none", b -> b.image() + b.back(), 0);
        FULL_BOOK.due("there is no image", b -> b.back(), STATE).taken("24", b -> b.image() * 100 + b.back(), 2424);
        RICH.taken("what 0", b -> b.count(0), 13).taken("what 3", b -> b.count(3), 15).due("what -1", b -> b.count(-1), BAD).due("what 4", b -> b.count(4), BAD)
            .due("what most", b -> b.count(MOST), BAD).due("what least", b -> b.count(LEAST), BAD);
    }
}
