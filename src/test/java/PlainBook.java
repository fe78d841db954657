import java.math.BigInteger;
import java.util.ArrayList;
import java.util.Arrays;
import java.util.HashMap;
import java.util.List;
import java.util.Map;

/**
 * The document once more, written for plainness with all of the Java library: numbers without a bound, the host's own
 * bits and remainders, exceptions. PlainBookTest holds ClauseBook against it.
 */
public final class PlainBook {
    private static final int NONE = -1, BAD = -2, STATE = -3, FULL = -4, MUCH = -5, NOTHING = -11, PLACE = -12, KIND = -13, SIZE = -14;
    private static final long NO = -4611686018427387904L;
    private static final String[] WORDS = {"nothing", "one", "given", "scaled", "priced", "both", "better", "worse", "until", "then", "late", "free", "where"};
    private static final int[] NAMES = {0, 0, 1, 1, 1, 2, 2, 2, 1, 2, 1, 1, 2};

    private static final class TooMuch extends RuntimeException {
        private static final long serialVersionUID = 1L;
    }

    private record Clause(int kind, int n, int c, int d) {
    }

    private record Fraction(BigInteger above, BigInteger below) {
        static Fraction of(BigInteger x, BigInteger y) {
            BigInteger g = x.gcd(y);
            return new Fraction(fit(x.divide(g)), fit(y.divide(g)));
        }

        static Fraction of(long x, long y) {
            return of(BigInteger.valueOf(x), BigInteger.valueOf(y));
        }

        Fraction plus(Fraction o) {
            BigInteger e = fit(above.multiply(o.below));
            BigInteger f = fit(o.above.multiply(below));
            return of(fit(e.add(f)), fit(below.multiply(o.below)));
        }

        Fraction times(Fraction o) {
            return of(fit(above.multiply(o.above)), fit(below.multiply(o.below)));
        }

        Fraction times(long n) {
            return times(of(n, 1));
        }

        int against(Fraction o) {
            return above.multiply(o.below).compareTo(o.above.multiply(below));
        }

        long part(int part) {
            return (part == 0 ? above : below).longValueExact();
        }
    }

    private static BigInteger fit(BigInteger x) {
        if (x.bitLength() > 63) throw new TooMuch();
        return x;
    }

    private record Image(int[] numbers, List<Clause> clauses, List<List<Integer>> bags) {
    }

    /** START, UP, DOWN, p, q, a, b. */
    private int[] numbers = {0, 1, 1, 1, 2, 1, 1};
    private List<Clause> clauses = new ArrayList<>();
    private List<List<Integer>> bags = new ArrayList<>(List.of(new ArrayList<>(), new ArrayList<>(), new ArrayList<>()));
    private final List<Integer> tape = new ArrayList<>();
    private final Object[] sheets = new Object[4];
    private final Object[] hands = new Object[4];
    private Image image = null;
    private Map<List<Integer>, Object> memo = new HashMap<>();

    public int start(int price, int up, int down) {
        if (Math.abs((long) price) > 99 || up < 0 || up > 9 || down < 0 || down > 9) return BAD;
        numbers[0] = price;
        numbers[1] = up;
        numbers[2] = down;
        memo.clear();
        return 1;
    }

    public int odds(int p, int q) {
        if (q < 2 || q > 9 || p < 0 || p > q) return BAD;
        numbers[3] = p;
        numbers[4] = q;
        memo.clear();
        return 1;
    }

    public int wait(int a, int b) {
        if (b < 1 || b > 9 || a < 1 || a > b) return BAD;
        numbers[5] = a;
        numbers[6] = b;
        memo.clear();
        return 1;
    }

    private boolean noSpot(int day, int spot) {
        return day < 0 || day > 6 || spot < 0 || spot > day;
    }

    private boolean noDay(int day) {
        return day < 0 || day > 6;
    }

    private boolean noPath(int path) {
        return path < 0 || path > 63;
    }

    private boolean noClause(long x) {
        return x < 0 || x >= clauses.size();
    }

    private int p(int day, int spot) {
        return numbers[0] + numbers[1] * spot - numbers[2] * (day - spot);
    }

    public int price(int day, int spot) {
        return noSpot(day, spot) ? BAD : p(day, spot);
    }

    private int along(int path, int day) {
        int spot = 0;
        for (int t = 0; t < day; t++) if ((path >> t & 1) == 1) spot++;
        return spot;
    }

    public int spotOf(int path, int day) {
        return noPath(path) || noDay(day) ? BAD : along(path, day);
    }

    private boolean mayName(int kind, int c, int d, int bound) {
        boolean first = NAMES[kind] > 0 ? c >= 0 && c < bound : c == 0;
        boolean second = NAMES[kind] > 1 ? d >= 0 && d < bound : d == 0;
        return first && second;
    }

    private static boolean mayCount(int kind, int n) {
        if (kind == 3) return n >= -9 && n <= 9;
        if (kind == 8) return n >= 0 && n <= 6;
        if (kind == 12) return n >= -99 && n <= 99;
        return n == 0;
    }

    private int add(int kind, int n, int c, int d) {
        clauses.add(new Clause(kind, n, NAMES[kind] > 0 ? c : NONE, NAMES[kind] > 1 ? d : NONE));
        return clauses.size() - 1;
    }

    public int clause(int kind, int n, int c, int d) {
        if (kind < 0 || kind > 12 || !mayCount(kind, n) || !mayName(kind, c, d, clauses.size())) return BAD;
        return clauses.size() == 24 ? FULL : add(kind, n, c, d);
    }

    private int end(int x) {
        int[] all = new int[x + 1];
        for (int i = 0; i <= x; i++) {
            Clause k = clauses.get(i);
            all[i] = NAMES[k.kind] == 0 ? 6 : NAMES[k.kind] == 1 ? all[k.c] : Math.max(all[k.c], all[k.d]);
            if (k.kind == 8 && k.n < all[i]) all[i] = k.n;
        }
        return all[x];
    }

    private int[] sizes() {
        int[] all = new int[clauses.size()];
        for (int x = 0; x < all.length; x++) {
            Clause k = clauses.get(x);
            all[x] = 1 + (k.c >= 0 ? all[k.c] : 0) + (k.d >= 0 ? all[k.d] : 0);
        }
        return all;
    }

    private int[] depths() {
        int[] all = new int[clauses.size()];
        for (int x = 0; x < all.length; x++) {
            Clause k = clauses.get(x);
            all[x] = 1 + Math.max(k.c >= 0 ? all[k.c] : 0, k.d >= 0 ? all[k.d] : 0);
        }
        return all;
    }

    public int clauseOf(int x, int what) {
        if (noClause(x)) return BAD;
        Clause k = clauses.get(x);
        return switch (what) {
            case 0 -> k.kind;
            case 1 -> k.n;
            case 2 -> k.c;
            case 3 -> k.d;
            case 4 -> end(x);
            case 5 -> sizes()[x];
            case 6 -> depths()[x];
            default -> BAD;
        };
    }

    public int drop() {
        if (clauses.isEmpty()) return STATE;
        clauses.remove(clauses.size() - 1);
        memo.clear();
        return clauses.size();
    }

    public int swap(int x, int c, int d) {
        if (noClause(x)) return BAD;
        Clause k = clauses.get(x);
        if (!mayName(k.kind, c, d, x)) return BAD;
        clauses.set(x, new Clause(k.kind, k.n, NAMES[k.kind] > 0 ? c : NONE, NAMES[k.kind] > 1 ? d : NONE));
        memo.clear();
        return 1;
    }

    private Fraction v(int x, int day, int spot) {
        List<Integer> key = List.of(x, day, spot);
        if (!memo.containsKey(key)) {
            Object found;
            try {
                found = worked(x, day, spot);
            } catch (TooMuch much) {
                found = much;
            }
            memo.put(key, found);
        }
        if (memo.get(key) instanceof Fraction f) return f;
        throw new TooMuch();
    }

    private Fraction worked(int x, int day, int spot) {
        if (day > end(x)) return Fraction.of(0, 1);
        Clause k = clauses.get(x);
        switch (k.kind) {
            case 0: return Fraction.of(0, 1);
            case 1: return Fraction.of(1, 1);
            case 2: return v(k.c, day, spot).times(-1);
            case 3: return v(k.c, day, spot).times(k.n);
            case 4: return v(k.c, day, spot).times(p(day, spot));
            case 5: return v(k.c, day, spot).plus(v(k.d, day, spot));
            case 6:
            case 7: return v(choice(x, day, spot), day, spot);
            case 8: return v(k.c, day, spot);
            case 9: return v(day <= end(k.c) ? k.c : k.d, day, spot);
            case 10: return day == end(k.c) ? v(k.c, day, spot) : m(x, day, spot);
            case 11:
                if (day == end(k.c)) return v(k.c, day, spot);
                Fraction atOnce = v(k.c, day, spot);
                Fraction later = m(x, day, spot);
                return atOnce.against(later) > 0 ? atOnce : later;
            default: return v(p(day, spot) >= k.n ? k.c : k.d, day, spot);
        }
    }

    private Fraction m(int x, int day, int spot) {
        Fraction up = v(x, day + 1, spot + 1).times(numbers[3]);
        Fraction down = v(x, day + 1, spot).times(numbers[4] - numbers[3]);
        return up.plus(down).times(Fraction.of(numbers[5], (long) numbers[6] * numbers[4]));
    }

    private int choice(int x, int day, int spot) {
        Clause k = clauses.get(x);
        if (day > end(k.c)) return k.d;
        if (day > end(k.d)) return k.c;
        int sign = v(k.d, day, spot).against(v(k.c, day, spot));
        return k.kind == 6 && sign > 0 || k.kind == 7 && sign < 0 ? k.d : k.c;
    }

    private int when(int x, int day, int path) {
        Clause k = clauses.get(x);
        for (int t = day; ; t++) {
            if (t == end(k.c)) return t;
            if (v(k.c, t, along(path, t)).against(m(x, t, along(path, t))) >= 0) return t;
        }
    }

    public long value(int x, int day, int spot, int part) {
        if (noClause(x) || noSpot(day, spot) || part < 0 || part > 1) return NO + BAD;
        try {
            return v(x, day, spot).part(part);
        } catch (TooMuch much) {
            return NO + MUCH;
        }
    }

    public long mean(int x, int day, int spot, int part) {
        if (noClause(x) || noSpot(day, spot) || day > 5 || part < 0 || part > 1) return NO + BAD;
        try {
            return m(x, day, spot).part(part);
        } catch (TooMuch much) {
            return NO + MUCH;
        }
    }

    public long valueAs(int x, int day, int spot, int how) {
        if (noClause(x) || noSpot(day, spot) || how < 0 || how > 5) return NO + BAD;
        try {
            Fraction f = v(x, day, spot);
            double v = (double) f.part(0) / f.part(1);
            return switch (how) {
                case 0 -> (long) (v * 100);
                case 1 -> Float.floatToIntBits((float) v);
                case 2 -> Double.doubleToLongBits(v);
                case 3 -> (int) (v % 1.0 * 1000);
                case 4 -> Double.doubleToLongBits(v % 0.375);
                default -> Float.floatToIntBits((float) v % 0.75f);
            };
        } catch (TooMuch much) {
            return NO + MUCH;
        }
    }

    public int chosen(int x, int day, int spot) {
        if (noClause(x) || noSpot(day, spot)) return BAD;
        int kind = clauses.get(x).kind;
        if (kind != 6 && kind != 7) return BAD;
        if (day > end(x)) return STATE;
        try {
            return choice(x, day, spot);
        } catch (TooMuch much) {
            return MUCH;
        }
    }

    public int taken(int x, int day, int path) {
        if (noClause(x) || noDay(day) || noPath(path) || clauses.get(x).kind != 11) return BAD;
        if (day > end(x)) return STATE;
        try {
            return when(x, day, path);
        } catch (TooMuch much) {
            return MUCH;
        }
    }

    public int alike(int x, int y) {
        if (noClause(x) || noClause(y)) return BAD;
        try {
            boolean like = end(x) == end(y);
            for (int t = 0; t < 7; t++) for (int k = 0; k <= t; k++) if (!v(x, t, k).equals(v(y, t, k))) like = false;
            return like ? 1 : 0;
        } catch (TooMuch much) {
            return MUCH;
        }
    }

    public int unlike(int x, int y) {
        if (noClause(x) || noClause(y)) return BAD;
        try {
            for (int t = 0; t < 7; t++) for (int k = 0; k <= t; k++) if (!v(x, t, k).equals(v(y, t, k))) return 10 * t + k;
            return NONE;
        } catch (TooMuch much) {
            return MUCH;
        }
    }

    public int most(int x, int day) {
        if (noClause(x) || noDay(day)) return BAD;
        try {
            int best = 0;
            for (int k = 0; k <= day; k++) if (v(x, day, k).against(v(x, day, best)) > 0) best = k;
            return best;
        } catch (TooMuch much) {
            return MUCH;
        }
    }

    private List<BigInteger> falling(int x, int day, int path) {
        if (sizes()[x] > 2000) throw new TooMuch();
        List<BigInteger> on = new ArrayList<>(Arrays.asList(new BigInteger[7]));
        fall(x, day, path, BigInteger.ONE, on);
        return on;
    }

    private void fall(int x, int day, int path, BigInteger m, List<BigInteger> on) {
        if (day > end(x)) return;
        Clause k = clauses.get(x);
        int price = p(day, along(path, day));
        switch (k.kind) {
            case 0 -> { }
            case 1 -> on.set(day, fit(m.add(on.get(day) == null ? BigInteger.ZERO : on.get(day))));
            case 2 -> fall(k.c, day, path, fit(m.negate()), on);
            case 3 -> fall(k.c, day, path, fit(m.multiply(BigInteger.valueOf(k.n))), on);
            case 4 -> fall(k.c, day, path, fit(m.multiply(BigInteger.valueOf(price))), on);
            case 5 -> {
                fall(k.c, day, path, m, on);
                fall(k.d, day, path, m, on);
            }
            case 6, 7 -> fall(choice(x, day, along(path, day)), day, path, m, on);
            case 8 -> fall(k.c, day, path, m, on);
            case 9 -> fall(day <= end(k.c) ? k.c : k.d, day, path, m, on);
            case 10 -> fall(k.c, end(k.c), path, m, on);
            case 11 -> fall(k.c, when(x, day, path), path, m, on);
            default -> fall(price >= k.n ? k.c : k.d, day, path, m, on);
        }
    }

    private static BigInteger amount(List<BigInteger> on, int t) {
        return on.get(t) == null ? BigInteger.ZERO : on.get(t);
    }

    public long due(int x, int day, int path, int on) {
        if (noClause(x) || noDay(day) || noPath(path) || noDay(on)) return NO + BAD;
        try {
            return amount(falling(x, day, path), on).longValueExact();
        } catch (TooMuch much) {
            return NO + MUCH;
        }
    }

    public int dueDays(int x, int day, int path) {
        if (noClause(x) || noDay(day) || noPath(path)) return BAD;
        try {
            List<BigInteger> on = falling(x, day, path);
            int bits = 0;
            for (int t = 0; t < 7; t++) if (on.get(t) != null) bits += 1 << t;
            return bits;
        } catch (TooMuch much) {
            return MUCH;
        }
    }

    public long failed(int x, int day, int path, int on, int part) {
        if (noClause(x) || noDay(day) || noPath(path) || noDay(on) || part < 0 || part > 9) return NO + BAD;
        try {
            List<BigInteger> dues = falling(x, day, path);
            BigInteger ahead = BigInteger.ZERO;
            BigInteger behind = BigInteger.ZERO;
            for (int t = 0; t < on; t++) ahead = fit(ahead.add(amount(dues, t)));
            for (int t = on; t < 7; t++) behind = fit(behind.add(amount(dues, t)));
            BigInteger times = fit(behind.multiply(BigInteger.valueOf(part)));
            return fit(ahead.add(times.divide(BigInteger.valueOf(9)))).longValueExact();
        } catch (TooMuch much) {
            return NO + MUCH;
        }
    }

    public int dues(int x, int day, int path, int sheet) {
        if (noClause(x) || noDay(day) || noPath(path) || sheet < 0 || sheet > 3) return BAD;
        if (sheets[sheet] == null) return NOTHING;
        try {
            List<BigInteger> on = falling(x, day, path);
            if (java.lang.reflect.Array.getLength(sheets[sheet]) < 7) return PLACE;
            for (int t = 0; t < 7; t++) if (cell(sheet, t, amount(on, t).longValueExact()) == MUCH) return MUCH;
            return 7;
        } catch (TooMuch much) {
            return MUCH;
        }
    }

    public int feed(int n, int bytes) {
        if (n < 1 || n > 4) return BAD;
        if (tape.size() + n > 120) return FULL;
        for (int i = 0; i < n; i++) tape.add(bytes >> 8 * (3 - i) & 255);
        return tape.size();
    }

    private static final class Fault extends Exception {
        private static final long serialVersionUID = 1L;
        final int at;

        Fault(int at) {
            this.at = at;
        }
    }

    /** The text as tokens with the place of each; a token that is neither a word nor a number is "?". */
    private record Token(String said, int at) {
    }

    private int read(List<Token> tokens, int[] next, int[] still, List<Clause> made, int length) throws Fault {
        Token word = token(tokens, next, length);
        int kind = List.of(WORDS).indexOf(word.said);
        if (kind < 0) throw new Fault(word.at);
        still[0] += NAMES[kind] - 1;
        still[1]++;
        if (clauses.size() + still[1] + still[0] > 24) throw new Fault(word.at);
        int n = 0;
        if (kind == 3 || kind == 8 || kind == 12) {
            Token number = token(tokens, next, length);
            if (!number.said.matches("-?[0-9]+")) throw new Fault(number.at);
            BigInteger big = new BigInteger(number.said);
            if (big.bitLength() > 20 || !mayCount(kind, big.intValue())) throw new Fault(number.at);
            n = big.intValue();
        }
        int c = NAMES[kind] > 0 ? read(tokens, next, still, made, length) : NONE;
        int d = NAMES[kind] > 1 ? read(tokens, next, still, made, length) : NONE;
        made.add(new Clause(kind, n, c, d));
        return clauses.size() + made.size() - 1;
    }

    private static Token token(List<Token> tokens, int[] next, int length) throws Fault {
        if (next[0] >= tokens.size()) throw new Fault(length);
        return tokens.get(next[0]++);
    }

    public int text() {
        StringBuilder all = new StringBuilder();
        for (int one : tape) all.append((char) one);
        tape.clear();
        List<Token> tokens = new ArrayList<>();
        java.util.regex.Matcher found = java.util.regex.Pattern.compile("[a-z]+|-?[0-9]+|[^ ]", java.util.regex.Pattern.DOTALL).matcher(all);
        while (found.find()) tokens.add(new Token(found.group(), found.start()));
        List<Clause> made = new ArrayList<>();
        try {
            int[] next = {0};
            int x = read(tokens, next, new int[] {1, 0}, made, all.length());
            if (next[0] < tokens.size()) throw new Fault(tokens.get(next[0]).at);
            clauses.addAll(made);
            return x;
        } catch (Fault fault) {
            return -100 - fault.at;
        }
    }

    private boolean noBag(int bag) {
        return bag < 0 || bag > 2;
    }

    public int put(int bag, int x) {
        if (noBag(bag) || noClause(x)) return BAD;
        if (bags.get(bag).size() == 12) return FULL;
        bags.get(bag).add(x);
        return bags.get(bag).size();
    }

    public int take(int bag) {
        if (noBag(bag)) return BAD;
        List<Integer> b = bags.get(bag);
        return b.isEmpty() ? NONE : b.remove(b.size() - 1);
    }

    public int bagOf(int bag, int i) {
        if (noBag(bag)) return BAD;
        return i < 0 || i >= bags.get(bag).size() ? PLACE : bags.get(bag).get(i);
    }

    public int pour(int from, int to, int kind) {
        if (noBag(from) || noBag(to) || from == to || kind < -1 || kind > 12) return BAD;
        int moved = 0;
        for (int i = 0; i < bags.get(from).size() && bags.get(to).size() < 12; ) {
            int x = bags.get(from).get(i);
            if (kind == -1 || !noClause(x) && clauses.get(x).kind == kind) {
                bags.get(from).remove(i);
                bags.get(to).add(x);
                moved++;
            } else {
                i++;
            }
        }
        return moved;
    }

    public int bagBest(int bag, int day, int spot) {
        if (noBag(bag) || noSpot(day, spot)) return BAD;
        List<Integer> b = bags.get(bag);
        int best = NONE;
        try {
            for (int i = 0; i < b.size(); i++) {
                if (noClause(b.get(i))) continue;
                Fraction f = v(b.get(i), day, spot);
                if (best == NONE || f.against(v(b.get(best), day, spot)) > 0) best = i;
            }
            return best;
        } catch (TooMuch much) {
            return MUCH;
        }
    }

    public int sum(int bag) {
        if (noBag(bag)) return BAD;
        List<Integer> b = bags.get(bag);
        if (b.isEmpty()) return NONE;
        for (int x : b) if (noClause(x)) return NONE;
        if (clauses.size() + b.size() - 1 > 24) return FULL;
        int all = b.get(0);
        for (int x : b.subList(1, b.size())) all = add(5, 0, all, x);
        return all;
    }

    public int sheet(int s, int sort, int n) {
        if (s < 0 || s > 3 || sort < -1 || sort > 3) return BAD;
        if (sort >= 0 && n > 30) return BAD;
        if (sort >= 0 && n < 0) return SIZE;
        sheets[s] = switch (sort) {
            case 0 -> new int[n];
            case 1 -> new long[n];
            case 2 -> new float[n];
            case 3 -> new double[n];
            default -> null;
        };
        return 1;
    }

    private int wrongPlace(int s, int i) {
        if (s < 0 || s > 3) return BAD;
        if (sheets[s] == null) return NOTHING;
        return i < 0 || i >= java.lang.reflect.Array.getLength(sheets[s]) ? PLACE : 0;
    }

    public int cell(int s, int i, long v) {
        if (wrongPlace(s, i) != 0) return wrongPlace(s, i);
        if (sheets[s] instanceof int[] r) {
            if (v < Integer.MIN_VALUE || v > Integer.MAX_VALUE) return MUCH;
            r[i] = (int) v;
        }
        if (sheets[s] instanceof long[] r) r[i] = v;
        if (sheets[s] instanceof float[] r) r[i] = (float) v;
        if (sheets[s] instanceof double[] r) r[i] = (double) v;
        return 1;
    }

    public long read(int s, int i, int how) {
        if (how < 0 || how > 3) return NO + BAD;
        if (wrongPlace(s, i) != 0) return NO + wrongPlace(s, i);
        if (sheets[s] instanceof int[] r) return how == 3 ? Double.doubleToLongBits((double) r[i] % 7) : r[i];
        if (sheets[s] instanceof long[] r) return how == 3 ? Double.doubleToLongBits((double) r[i] % 7) : how == 1 ? (int) r[i] : r[i];
        if (sheets[s] instanceof float[] r) {
            return switch (how) {
                case 0 -> Float.floatToIntBits(r[i]);
                case 1 -> (int) r[i];
                case 2 -> (long) r[i];
                default -> Double.doubleToLongBits((double) r[i] % 7);
            };
        }
        double d = ((double[]) sheets[s])[i];
        return switch (how) {
            case 0 -> Double.doubleToLongBits(d);
            case 1 -> (int) d;
            case 2 -> (long) d;
            default -> Double.doubleToLongBits(d % 7);
        };
    }

    public int halve(int s, int i) {
        if (wrongPlace(s, i) != 0) return wrongPlace(s, i);
        if (sheets[s] instanceof int[] r) r[i] /= 2;
        if (sheets[s] instanceof long[] r) r[i] /= 2;
        if (sheets[s] instanceof float[] r) r[i] /= 2;
        if (sheets[s] instanceof double[] r) r[i] /= 2;
        return 1;
    }

    @SuppressWarnings("SuspiciousSystemArraycopy")
    public int copy(int from, int i, int to, int j, int n) {
        if (from < 0 || from > 3 || to < 0 || to > 3) return BAD;
        if (sheets[from] == null || sheets[to] == null) return NOTHING;
        if (sheets[from].getClass() != sheets[to].getClass()) return KIND;
        try {
            System.arraycopy(sheets[from], i, sheets[to], j, n);
            return n;
        } catch (IndexOutOfBoundsException outside) {
            return PLACE;
        }
    }

    public int hold(int hand, int sort, long v, long w) {
        if (hand < 0 || hand > 3 || sort < 0 || sort > 2) return BAD;
        if (sort == 1 && noClause(v)) return BAD;
        if (sort == 2 && (w < 1 || v < -9223372036854775807L)) return BAD;
        int held = hands[hand] == null ? 0 : hands[hand] instanceof Integer ? 1 : 2;
        hands[hand] = sort == 0 ? null : sort == 1 ? Integer.valueOf((int) v) : Fraction.of(v, w);
        return held;
    }

    public int asClause(int hand, int kind) {
        if (hand < 0 || hand > 3 || kind < 0 || kind > 3) return BAD;
        if (hands[hand] == null) return NOTHING;
        if (!(hands[hand] instanceof Integer x)) return KIND;
        if (noClause(x)) return NOTHING;
        int is = clauses.get(x).kind;
        return kind == 3 || NAMES[is] == kind ? is : KIND;
    }

    public long asFraction(int hand, int part) {
        if (hand < 0 || hand > 3 || part < 0 || part > 1) return NO + BAD;
        if (hands[hand] == null) return NO + NOTHING;
        return hands[hand] instanceof Fraction f ? f.part(part) : NO + KIND;
    }

    public int compare(int hand, int x, int day, int spot) {
        if (hand < 0 || hand > 3 || noClause(x) || noSpot(day, spot)) return BAD;
        if (hands[hand] == null) return NOTHING;
        if (!(hands[hand] instanceof Fraction f)) return KIND;
        try {
            return v(x, day, spot).against(f);
        } catch (TooMuch much) {
            return MUCH;
        }
    }

    private static List<List<Integer>> twin(List<List<Integer>> bags) {
        List<List<Integer>> all = new ArrayList<>();
        for (List<Integer> b : bags) all.add(new ArrayList<>(b));
        return all;
    }

    public int image() {
        image = new Image(numbers.clone(), new ArrayList<>(clauses), twin(bags));
        return clauses.size();
    }

    public int back() {
        if (image == null) return STATE;
        numbers = image.numbers.clone();
        clauses = new ArrayList<>(image.clauses);
        bags = twin(image.bags);
        memo.clear();
        return clauses.size();
    }

    public int count(int what) {
        switch (what) {
            case 0: return clauses.size();
            case 1: return numbers[0];
            case 2:
                int free = 0;
                for (int x = 0; x < clauses.size(); x++) {
                    int is = x;
                    if (clauses.stream().noneMatch(k -> k.c == is || k.d == is)) free++;
                }
                return free;
            case 3: return (int) bags.stream().flatMap(List::stream).filter(x -> !noClause(x)).count();
            default: return BAD;
        }
    }
}
