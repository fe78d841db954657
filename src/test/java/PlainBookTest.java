/**
 * Long runs of calls, made up by a fixed rule, on a ClauseBook and on a PlainBook: both must answer alike. Each call is
 * written as its name and, for each number that it takes, a letter that says what is mostly given there.
 */
public final class PlainBookTest {
    /** How often a call is made stands ahead of it. */
    private static final String[] CALLS = {
        "3 start AUU", "2 odds PQ", "2 wait PQ", "1 price DK", "1 spotOf HD",
        "12 clause TNCC", "3 clauseOf XW", "1 drop", "3 swap XCC",
        "8 value XDKb", "6 mean XDKb", "8 valueAs XDKW", "6 chosen EDK", "6 taken FDH", "4 alike XX", "4 unlike XX", "4 most XD",
        "5 due XDHD", "4 dueDays XDH", "5 failed XDHDQ", "5 dues XDHS",
        "0 feed", "5 text", "4 put GX", "1 take G", "1 bagOf GI", "2 pour GGM", "3 bagBest GDK", "1 sum G",
        "1 sheet SRJ", "4 cell SIL", "6 read SIB", "4 halve SI", "3 copy SISII",
        "3 hold SBLL", "2 asClause SB", "2 asFraction Sb", "5 compare SXDK", "1 image", "1 back", "1 count B"};
    private static final String[] WORDS = {"nothing", "one", "given", "scaled", "priced", "both", "better", "worse", "until", "then", "late", "free", "where"};

    private final long[] seed;
    private final Twins twins;
    private final PlainBook plain;

    private PlainBookTest(long seed) {
        this.seed = new long[] {seed * 7919 + 17};
        twins = new Twins("run " + seed);
        plain = twins.plain;
    }

    private int below(int n) {
        seed[0] = seed[0] * 6364136223846793005L + 1442695040888963407L;
        return (int) ((seed[0] >>> 33) % n);
    }

    private int between(int least, int most) {
        return least + below(most - least + 1);
    }

    public static void main(String[] args) throws Exception {
        for (int i = 0; i < 3000; i++) new PlainBookTest(i).go();
        Check.end();
    }

    private void go() throws Exception {
        int total = 0;
        for (String call : CALLS) total += Integer.parseInt(call.split(" ")[0]);
        int style = below(4);
        if (below(3) > 0) for (int i = 0; i < 4; i++) ask("sheet", i, below(4), between(3, 30));
        if (below(2) > 0) ask("start", between(-99, 99), between(0, 9), between(0, 9));
        for (int made = 0; made < 300 && !twins.worn(); made++) {
            if (style == 1 && made < 20) {
                ask("clause", below(12) == 0 ? new long[] {1, 0, 0, 0} : richClause());
                continue;
            }
            if (style == 2 && made < 22) {
                ask("clause", deepClause(made));
                continue;
            }
            int at = below(total);
            for (String call : CALLS) {
                String[] said = call.split(" ");
                at -= Integer.parseInt(said[0]);
                if (at >= 0) continue;
                if (said[1].equals("text")) tell();
                else if (said[1].equals("compare") && below(2) > 0) near();
                else if (said[1].equals("cell") || said[1].equals("halve")) shrink(said);
                else ask(said[1], said.length > 2 ? numbers(said[2]) : new long[0]);
                break;
            }
        }
    }

    private long[] richClause() {
        int kind = between(2, 12);
        int had = plain.count(0);
        int late = had > 0 ? below(Math.min(had, 5)) : 0;
        int c = Math.max(0, had - 1 - late);
        int d = had > 0 ? below(had) : 0;
        int n = kind == 3 ? between(-9, 9) : kind == 8 ? between(0, 6) : kind == 12 ? between(-30, 30) : 0;
        boolean two = kind == 5 || kind == 6 || kind == 7 || kind == 9 || kind == 12;
        return new long[] {kind, n, c, two ? d : 0};
    }

    /** Towers that come near to what 64 bits hold. */
    private long[] deepClause(int made) {
        if (made == 0) return new long[] {1, 0, 0, 0};
        int had = Math.max(1, plain.count(0));
        int kind = new int[] {3, 3, 4, 4, 4, 5, 10, 11, 2}[below(9)];
        int n = kind == 3 ? new int[] {-8, -4, 8, 9, 7, -9}[below(6)] : 0;
        return new long[] {kind, n, had - 1, kind == 5 ? below(had) : 0};
    }

    private long[] numbers(String letters) {
        long[] all = new long[letters.length()];
        int day = -1;
        for (int i = 0; i < all.length; i++) {
            char letter = letters.charAt(i);
            all[i] = letter == 'K' && day >= 0 && below(20) > 0 ? between(0, day) : number(letter);
            if (letter == 'D') day = (int) all[i];
        }
        if (letters.equals("TNCC") && below(10) > 0) return richClause();
        return all;
    }

    private long number(char letter) {
        if (below(60) == 0) return new int[] {-1, -2, Integer.MIN_VALUE, Integer.MAX_VALUE, 7, 100, 64}[below(7)];
        return switch (letter) {
            case 'S' -> below(4);
            case 'A' -> between(-99, 99);
            case 'b' -> below(12) == 0 ? 2 : below(2);
            case 'E' -> ofKind(below(2) + 6);
            case 'F' -> ofKind(11);
            case 'J' -> below(10) == 0 ? between(-2, 32) : between(4, 20);
            case 'U' -> between(0, 9);
            case 'P' -> between(0, 5);
            case 'Q' -> between(1, 9);
            case 'D' -> between(0, 6);
            case 'K' -> between(0, 3);
            case 'H' -> between(0, 63);
            case 'T' -> between(0, 12);
            case 'N' -> below(3) > 0 ? 0 : between(-9, 9);
            case 'C' -> below(3) == 0 ? 0 : between(0, Math.max(0, plain.count(0) - 1));
            case 'X' -> between(0, Math.max(0, plain.count(0) - 1));
            case 'W' -> between(0, 6);
            case 'B' -> between(0, 3);
            case 'G' -> between(0, 2);
            case 'I' -> below(5) == 0 ? between(-2, 32) : between(0, 10);
            case 'M' -> between(-1, 6);
            case 'R' -> between(-1, 3);
            default -> big();
        };
    }

    /** A clause of a kind, if there is one. */
    private long ofKind(int kind) {
        int had = plain.count(0);
        int first = below(Math.max(1, had));
        for (int i = 0; i < had; i++) if (plain.clauseOf((first + i) % had, 0) == kind) return (first + i) % had;
        return first;
    }

    /** A value against a fraction that is alike, or hardly more or less. */
    private void near() throws Exception {
        long x = below(Math.max(1, plain.count(0)));
        long day = between(0, 6);
        long spot = between(0, (int) day);
        long above = plain.value((int) x, (int) day, (int) spot, 0);
        long below = plain.value((int) x, (int) day, (int) spot, 1);
        long times = 1 + big() % 1000000007L;
        if (below <= 0 || times <= 0 || Math.multiplyHigh(above, times) != above * times >> 63 || Math.multiplyHigh(below, times) != 0) times = 1;
        ask("hold", 2, 2, above * times + between(-1, 1), below * times);
        ask("compare", 2, x, day, spot);
        ask("asFraction", 2, 0);
    }

    private long big() {
        long whole = ((long) below(Integer.MAX_VALUE) << 33) ^ ((long) below(Integer.MAX_VALUE) << 11) ^ below(2048);
        long[] edges = {Long.MIN_VALUE, Long.MAX_VALUE, Integer.MIN_VALUE, Integer.MAX_VALUE, Integer.MIN_VALUE - 1L, Integer.MAX_VALUE + 1L, -Long.MAX_VALUE, 7, -7, 0, 1, -1};
        return switch (below(4)) {
            case 0 -> edges[below(edges.length)];
            case 1 -> between(-40, 40);
            default -> whole >> below(64);
        };
    }

    /** Many halves in a row, so that floats get too small to be told from 0. */
    private void shrink(String[] said) throws Exception {
        if (said[1].equals("cell") || below(6) > 0) {
            ask(said[1], numbers(said[2]));
            return;
        }
        long s = below(4);
        long i = between(0, 3);
        int times = between(1, 60);
        for (int t = 0; t < times; t++) ask("halve", s, i);
        ask("read", s, i, 0L);
        ask("read", s, i, 3L);
    }

    private void tell() throws Exception {
        StringBuilder all = new StringBuilder();
        if (below(8) == 0) all.append(' ');
        if (below(6) > 0) {
            say(all, 0);
        } else {
            int words = below(8);
            for (int i = 0; i < words; i++) all.append(WORDS[below(13)]).append(below(5) == 0 ? "" : " ").append(below(4) == 0 ? Integer.toString(between(-12, 120)) : "");
        }
        if (below(4) == 0) all.append("  ");
        if (below(5) == 0 && all.length() > 0) all.setCharAt(below(all.length()), (char) new int[] {' ', '-', 'e', '9', 0, 255, 'Z', 200, 10}[below(9)]);
        if (below(12) == 0) all.append(WORDS[below(13)]);
        for (int at = 0; at < all.length(); ) {
            int n = Math.min(between(1, 4), all.length() - at);
            int bytes = below(256);
            for (int i = 0; i < n; i++) bytes = bytes & ~(255 << 24 - 8 * i) | all.charAt(at + i) << 24 - 8 * i;
            ask("feed", n, bytes);
            at += n;
        }
        ask("text");
    }

    private void say(StringBuilder all, int deep) {
        int kind = deep > 3 || below(3) == 0 ? below(2) : between(2, 12);
        all.append(WORDS[kind]);
        boolean numbered = kind == 3 || kind == 8 || kind == 12;
        if (numbered && below(3) > 0) all.append(' ');
        if (numbered) all.append(kind == 8 ? between(0, 6) : kind == 3 ? between(-9, 9) : between(-99, 99));
        if (numbered ? below(3) > 0 : kind > 1) all.append(' ');
        if (kind > 1) say(all, deep + 1);
        if (kind == 5 || kind == 6 || kind == 7 || kind == 9 || kind == 12) {
            all.append(' ');
            say(all, deep + 1);
        }
    }

    private void ask(String name, long... numbers) throws Exception {
        twins.ask(name, numbers);
    }
}
