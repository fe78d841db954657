/**
 * Contracts put together from clauses, and what they are worth on a lattice of prices.
 * The promises that this class keeps stand in shared/DOC.md; README.md says how to use it.
 */
public final class ClauseBook {
    public static final int NONE = -1, BAD = -2, STATE = -3, FULL = -4, MUCH = -5, NOTHING = -11, PLACE = -12, KIND = -13, SIZE = -14;
    public static final long NO = -4611686018427387904L;

    private static final int DAYS = 7;
    private static final int LAST_DAY = 6;
    private static final int LAST_PATH = 63;
    private static final int MOST_CLAUSES = 24;
    private static final int MOST_MADE_OF = 2000;
    private static final int BAGS = 3;
    private static final int MOST_IN_BAG = 12;
    private static final int SHEETS = 4;
    private static final int MOST_PLACES = 30;
    private static final int HANDS = 4;
    private static final int MOST_BYTES = 120;
    private static final int MISSING = -1, INTS = 0, LONGS = 1, FLOATS = 2, DOUBLES = 3;
    private static final int HOLDS_NOTHING = 0, HOLDS_CLAUSE = 1, HOLDS_FRACTION = 2;

    private final Kept now = new Kept();
    private final Kept kept = new Kept();
    private boolean imaged = false;
    private final Lattice lattice = now.lattice;
    private final Clauses clauses = now.clauses;
    private final Bag[] bags = now.bags;
    private final Worth worth = new Worth(lattice, clauses);
    private final Falling falling = new Falling(lattice, clauses, worth);
    private final Tape tape = new Tape();
    private final Sheet[] sheets = new Sheet[SHEETS];
    private final Hand[] hands = new Hand[HANDS];

    public ClauseBook() {
        for (int i = 0; i < SHEETS; i++) sheets[i] = new Sheet();
        for (int i = 0; i < HANDS; i++) hands[i] = new Hand();
    }

    // ---- the lattice

    public int start(int price, int up, int down) {
        if (!within(price, -99, 99) || !within(up, 0, 9) || !within(down, 0, 9)) return BAD;
        lattice.start = price;
        lattice.up = up;
        lattice.down = down;
        worth.forget();
        return 1;
    }

    public int odds(int p, int q) {
        if (!within(q, 2, 9) || !within(p, 0, q)) return BAD;
        lattice.p = p;
        lattice.q = q;
        worth.forget();
        return 1;
    }

    public int wait(int a, int b) {
        if (!within(b, 1, 9) || !within(a, 1, b)) return BAD;
        lattice.a = a;
        lattice.b = b;
        worth.forget();
        return 1;
    }

    public int price(int day, int spot) {
        return isSpot(day, spot) ? lattice.priceAt(day, spot) : BAD;
    }

    public int spotOf(int path, int day) {
        return isPath(path) && isDay(day) ? Lattice.spotOn(path, day) : BAD;
    }

    // ---- clauses

    public int clause(int kind, int n, int c, int d) {
        if (!within(kind, 0, Kind.ALL.length - 1)) return BAD;
        Kind is = Kind.ALL[kind];
        if (!within(n, is.least, is.most) || !is.mayName(c, d, clauses.size)) return BAD;
        if (clauses.size >= MOST_CLAUSES) return FULL;
        return clauses.append(kind, n, c, d);
    }

    public int clauseOf(int x, int what) {
        if (!clauses.has(x)) return BAD;
        switch (what) {
            case 0: return clauses.kind[x];
            case 1: return clauses.n[x];
            case 2: return clauses.c[x];
            case 3: return clauses.d[x];
            case 4: return clauses.end[x];
            case 5: return clauses.made[x];
            case 6: return clauses.deep[x];
            default: return BAD;
        }
    }

    public int drop() {
        if (clauses.size <= 0) return STATE;
        clauses.size--;
        worth.forget();
        return clauses.size;
    }

    public int swap(int x, int c, int d) {
        if (!clauses.has(x) || !clauses.kindOf(x).mayName(c, d, x)) return BAD;
        clauses.rename(x, c, d);
        worth.forget();
        return 1;
    }

    // ---- worth

    public long value(int x, int day, int spot, int part) {
        if (!clauses.has(x) || !isSpot(day, spot) || !within(part, 0, 1)) return NO + BAD;
        return worth.partOf(worth.settle(x, day, spot), part);
    }

    public long mean(int x, int day, int spot, int part) {
        if (!clauses.has(x) || !isSpot(day, spot) || day == LAST_DAY || !within(part, 0, 1)) return NO + BAD;
        worth.average(Worth.MEAN, x, day, spot);
        return worth.partOf(Worth.MEAN, part);
    }

    public long valueAs(int x, int day, int spot, int how) {
        if (!clauses.has(x) || !isSpot(day, spot) || !within(how, 0, 5)) return NO + BAD;
        int slot = worth.settle(x, day, spot);
        if (worth.isMuch(slot)) return NO + MUCH;
        double v = (double) worth.above[slot] / (double) worth.below[slot];
        switch (how) {
            case 0: return (long) (v * 100);
            case 1: return Host.floatBits((float) v);
            case 2: return Host.doubleBits(v);
            case 3: return (int) (Host.remainder(v, 1.0) * 1000);
            case 4: return Host.doubleBits(Host.remainder(v, 0.375));
            default: return Host.floatBits((float) Host.remainder((double) (float) v, 0.75));
        }
    }

    public int chosen(int x, int day, int spot) {
        if (!clauses.has(x) || !isSpot(day, spot)) return BAD;
        Kind is = clauses.kindOf(x);
        if (is != Kind.BETTER && is != Kind.WORSE) return BAD;
        if (day > clauses.end[x]) return STATE;
        return worth.picked(x, day, spot);
    }

    public int taken(int x, int day, int path) {
        if (!clauses.has(x) || !isDay(day) || !isPath(path)) return BAD;
        if (clauses.kindOf(x) != Kind.FREE) return BAD;
        if (day > clauses.end[x]) return STATE;
        return worth.takenOn(x, day, path);
    }

    public int alike(int x, int y) {
        if (!clauses.has(x) || !clauses.has(y)) return BAD;
        boolean same = clauses.end[x] == clauses.end[y];
        for (int day = 0; day < DAYS; day++) {
            for (int spot = 0; spot <= day; spot++) {
                int e = worth.settle(x, day, spot);
                int f = worth.settle(y, day, spot);
                if (worth.isMuch(e) || worth.isMuch(f)) return MUCH;
                same = same && worth.order(e, f) == 0;
            }
        }
        return same ? 1 : 0;
    }

    public int unlike(int x, int y) {
        if (!clauses.has(x) || !clauses.has(y)) return BAD;
        for (int day = 0; day < DAYS; day++) {
            for (int spot = 0; spot <= day; spot++) {
                int e = worth.settle(x, day, spot);
                int f = worth.settle(y, day, spot);
                if (worth.isMuch(e) || worth.isMuch(f)) return MUCH;
                if (worth.order(e, f) != 0) return 10 * day + spot;
            }
        }
        return NONE;
    }

    public int most(int x, int day) {
        if (!clauses.has(x) || !isDay(day)) return BAD;
        int best = 0;
        int bestSlot = worth.settle(x, day, 0);
        if (worth.isMuch(bestSlot)) return MUCH;
        for (int spot = 1; spot <= day; spot++) {
            int slot = worth.settle(x, day, spot);
            if (worth.isMuch(slot)) return MUCH;
            if (worth.order(slot, bestSlot) > 0) {
                best = spot;
                bestSlot = slot;
            }
        }
        return best;
    }

    // ---- dues

    public long due(int x, int day, int path, int on) {
        if (!isHad(x, day, path) || !isDay(on)) return NO + BAD;
        falling.gather(x, day, path);
        return falling.much ? NO + MUCH : falling.on[on];
    }

    public int dueDays(int x, int day, int path) {
        if (!isHad(x, day, path)) return BAD;
        falling.gather(x, day, path);
        return falling.much ? MUCH : falling.days;
    }

    public long failed(int x, int day, int path, int on, int part) {
        if (!isHad(x, day, path) || !isDay(on) || !within(part, 0, 9)) return NO + BAD;
        falling.gather(x, day, path);
        long ahead = falling.total(0, on);
        long behind = falling.total(on, DAYS);
        if (falling.much || !Worth.productFits(behind, part)) return NO + MUCH;
        long left = behind * part / 9;
        return Worth.sumFits(ahead, left) ? ahead + left : NO + MUCH;
    }

    public int dues(int x, int day, int path, int sheet) {
        if (!isHad(x, day, path) || !within(sheet, 0, SHEETS - 1)) return BAD;
        Sheet row = sheets[sheet];
        if (row.sort == MISSING) return NOTHING;
        falling.gather(x, day, path);
        if (falling.much) return MUCH;
        if (row.size < DAYS) return PLACE;
        for (int t = 0; t < DAYS; t++) {
            if (!row.store(t, falling.on[t])) return MUCH;
        }
        return DAYS;
    }

    // ---- texts

    public int feed(int n, int bytes) {
        if (!within(n, 1, 4)) return BAD;
        if (tape.size + n > MOST_BYTES) return FULL;
        for (int i = 0; i < n; i++) tape.append(bytes >>> (24 - 8 * i) & 255);
        return tape.size;
    }

    public int text() {
        int fault = tape.scan(MOST_CLAUSES - clauses.size);
        tape.size = 0;
        if (fault != NONE) return -100 - fault;
        tape.next = 0;
        return tape.build(clauses);
    }

    // ---- bags

    public int put(int bag, int x) {
        if (!isBag(bag) || !clauses.has(x)) return BAD;
        return bags[bag].append(x) ? bags[bag].size : FULL;
    }

    public int take(int bag) {
        if (!isBag(bag)) return BAD;
        Bag from = bags[bag];
        if (from.size <= 0) return NONE;
        from.size--;
        return from.numbers[from.size];
    }

    public int bagOf(int bag, int i) {
        if (!isBag(bag)) return BAD;
        return within(i, 0, bags[bag].size - 1) ? bags[bag].numbers[i] : PLACE;
    }

    public int pour(int from, int to, int kind) {
        if (!isBag(from) || !isBag(to) || from == to || !within(kind, -1, Kind.ALL.length - 1)) return BAD;
        Bag source = bags[from];
        int had = source.size;
        int left = 0;
        for (int i = 0; i < had; i++) {
            int x = source.numbers[i];
            boolean meant = kind == -1 || clauses.has(x) && clauses.kind[x] == kind;
            if (meant && bags[to].append(x)) continue;
            source.numbers[left] = x;
            left++;
        }
        source.size = left;
        return had - left;
    }

    public int bagBest(int bag, int day, int spot) {
        if (!isBag(bag) || !isSpot(day, spot)) return BAD;
        int best = NONE;
        int bestSlot = 0;
        for (int i = 0; i < bags[bag].size; i++) {
            int x = bags[bag].numbers[i];
            if (!clauses.has(x)) continue;
            int slot = worth.settle(x, day, spot);
            if (worth.isMuch(slot)) return MUCH;
            if (best == NONE || worth.order(slot, bestSlot) > 0) {
                best = i;
                bestSlot = slot;
            }
        }
        return best;
    }

    public int sum(int bag) {
        if (!isBag(bag)) return BAD;
        Bag parts = bags[bag];
        if (parts.size == 0) return NONE;
        for (int i = 0; i < parts.size; i++) {
            if (!clauses.has(parts.numbers[i])) return NONE;
        }
        if (clauses.size + parts.size - 1 > MOST_CLAUSES) return FULL;
        int all = parts.numbers[0];
        for (int i = 1; i < parts.size; i++) all = clauses.append(Kind.BOTH.number, 0, all, parts.numbers[i]);
        return all;
    }

    // ---- sheets

    public int sheet(int s, int sort, int n) {
        if (!within(s, 0, SHEETS - 1) || !within(sort, MISSING, DOUBLES)) return BAD;
        if (sort == MISSING) {
            sheets[s].sort = MISSING;
            return 1;
        }
        if (n > MOST_PLACES) return BAD;
        if (n < 0) return SIZE;
        sheets[s].become(sort, n);
        return 1;
    }

    public int cell(int s, int i, long v) {
        int fault = placeFault(s, i);
        if (fault != 0) return fault;
        return sheets[s].store(i, v) ? 1 : MUCH;
    }

    public long read(int s, int i, int how) {
        if (!within(how, 0, 3)) return NO + BAD;
        int fault = placeFault(s, i);
        if (fault != 0) return NO + fault;
        Sheet row = sheets[s];
        switch (how) {
            case 0: return row.asItIs(i);
            case 1: return row.asInt(i);
            case 2: return row.asLong(i);
            default: return Host.doubleBits(Host.remainder(row.asDouble(i), 7));
        }
    }

    public int halve(int s, int i) {
        int fault = placeFault(s, i);
        if (fault != 0) return fault;
        sheets[s].cutInHalf(i);
        return 1;
    }

    public int copy(int from, int i, int to, int j, int n) {
        if (!within(from, 0, SHEETS - 1) || !within(to, 0, SHEETS - 1)) return BAD;
        Sheet source = sheets[from];
        Sheet target = sheets[to];
        if (source.sort == MISSING || target.sort == MISSING) return NOTHING;
        if (source.sort != target.sort) return KIND;
        if (!source.hasRun(i, n) || !target.hasRun(j, n)) return PLACE;
        target.moveFrom(source, i, j, n);
        return n;
    }

    // ---- hands, an image

    public int hold(int hand, int sort, long v, long w) {
        if (!isHand(hand) || !within(sort, HOLDS_NOTHING, HOLDS_FRACTION)) return BAD;
        if (sort == HOLDS_CLAUSE && (v < 0 || v >= clauses.size)) return BAD;
        if (sort == HOLDS_FRACTION && (w < 1 || v == Long.MIN_VALUE)) return BAD;
        Hand holder = hands[hand];
        int before = holder.sort;
        holder.sort = sort;
        if (sort == HOLDS_CLAUSE) holder.number = (int) v;
        if (sort == HOLDS_FRACTION) {
            worth.reduce(Worth.SPARE, v, w);
            holder.above = worth.above[Worth.SPARE];
            holder.below = worth.below[Worth.SPARE];
        }
        return before;
    }

    public int asClause(int hand, int kind) {
        if (!isHand(hand) || !within(kind, 0, 3)) return BAD;
        Hand holder = hands[hand];
        if (holder.sort == HOLDS_NOTHING) return NOTHING;
        if (holder.sort != HOLDS_CLAUSE) return KIND;
        if (!clauses.has(holder.number)) return NOTHING;
        if (kind != 3 && clauses.kindOf(holder.number).names != kind) return KIND;
        return clauses.kind[holder.number];
    }

    public long asFraction(int hand, int part) {
        if (!isHand(hand) || !within(part, 0, 1)) return NO + BAD;
        int fault = hands[hand].fractionFault();
        if (fault != 0) return NO + fault;
        return part == 0 ? hands[hand].above : hands[hand].below;
    }

    public int compare(int hand, int x, int day, int spot) {
        if (!isHand(hand) || !clauses.has(x) || !isSpot(day, spot)) return BAD;
        Hand holder = hands[hand];
        int fault = holder.fractionFault();
        if (fault != 0) return fault;
        int slot = worth.settle(x, day, spot);
        if (worth.isMuch(slot)) return MUCH;
        worth.reduce(Worth.SPARE, holder.above, holder.below);
        return worth.order(slot, Worth.SPARE);
    }

    public int image() {
        kept.become(now);
        imaged = true;
        return clauses.size;
    }

    public int back() {
        if (!imaged) return STATE;
        now.become(kept);
        worth.forget();
        return clauses.size;
    }

    public int count(int what) {
        switch (what) {
            case 0: return clauses.size;
            case 1: return lattice.start;
            case 2: return clauses.unnamed();
            case 3: return inBags();
            default: return BAD;
        }
    }

    private int inBags() {
        int all = 0;
        for (int b = 0; b < BAGS; b++) {
            for (int i = 0; i < bags[b].size; i++) {
                if (clauses.has(bags[b].numbers[i])) all++;
            }
        }
        return all;
    }

    private boolean isHad(int x, int day, int path) {
        return clauses.has(x) && isDay(day) && isPath(path);
    }

    /** Why place i of sheet s can't be used; 0 if it can. */
    private int placeFault(int s, int i) {
        if (!within(s, 0, SHEETS - 1)) return BAD;
        if (sheets[s].sort == MISSING) return NOTHING;
        return within(i, 0, sheets[s].size - 1) ? 0 : PLACE;
    }

    private static boolean within(int i, int least, int most) {
        return i >= least && i <= most;
    }

    private static boolean isDay(int day) {
        return within(day, 0, LAST_DAY);
    }

    private static boolean isSpot(int day, int spot) {
        return isDay(day) && within(spot, 0, day);
    }

    private static boolean isPath(int path) {
        return within(path, 0, LAST_PATH);
    }

    private static boolean isBag(int bag) {
        return within(bag, 0, BAGS - 1);
    }

    private static boolean isHand(int hand) {
        return within(hand, 0, HANDS - 1);
    }

    /** The kinds of clauses in the order of their numbers; without a number n both its bounds are 0. */
    private enum Kind {
        NOTHING(0, "nothing", 0, 0, 0),
        ONE(1, "one", 0, 0, 0),
        GIVEN(2, "given", 1, 0, 0),
        SCALED(3, "scaled", 1, -9, 9),
        PRICED(4, "priced", 1, 0, 0),
        BOTH(5, "both", 2, 0, 0),
        BETTER(6, "better", 2, 0, 0),
        WORSE(7, "worse", 2, 0, 0),
        UNTIL(8, "until", 1, 0, 6),
        THEN(9, "then", 2, 0, 0),
        LATE(10, "late", 1, 0, 0),
        FREE(11, "free", 1, 0, 0),
        WHERE(12, "where", 2, -99, 99);

        private static final Kind[] ALL = values();

        final int number;
        final String word;
        final int names;
        final int least;
        final int most;

        Kind(int number, String word, int names, int least, int most) {
            this.number = number;
            this.word = word;
            this.names = names;
            this.least = least;
            this.most = most;
        }

        boolean numbered() {
            return least < most;
        }

        /** Whether c and d are clauses ahead of a bound, or 0 where this kind names none. */
        boolean mayName(int c, int d, int bound) {
            boolean first = names >= 1 ? within(c, 0, bound - 1) : c == 0;
            boolean second = names == 2 ? within(d, 0, bound - 1) : d == 0;
            return first && second;
        }
    }

    /** The prices, the odds and the wait. */
    private static final class Lattice {
        int start = 0;
        int up = 1;
        int down = 1;
        int p = 1;
        int q = 2;
        int a = 1;
        int b = 1;

        int priceAt(int day, int spot) {
            return start + up * spot - down * (day - spot);
        }

        static int spotOn(int path, int day) {
            return Integer.bitCount(path & ((1 << day) - 1));
        }

        void become(Lattice other) {
            start = other.start;
            up = other.up;
            down = other.down;
            p = other.p;
            q = other.q;
            a = other.a;
            b = other.b;
        }
    }

    /** All clauses by number, with what follows from what they name. */
    private static final class Clauses {
        int size = 0;
        final int[] kind = new int[MOST_CLAUSES];
        final int[] n = new int[MOST_CLAUSES];
        final int[] c = new int[MOST_CLAUSES];
        final int[] d = new int[MOST_CLAUSES];
        final int[] end = new int[MOST_CLAUSES];
        final int[] made = new int[MOST_CLAUSES];
        final int[] deep = new int[MOST_CLAUSES];

        boolean has(int x) {
            return within(x, 0, size - 1);
        }

        Kind kindOf(int x) {
            return Kind.ALL[kind[x]];
        }

        /** The callers have looked whether there is room; the number of the new clause. */
        int append(int ofKind, int number, int first, int second) {
            if (size >= MOST_CLAUSES) return FULL;
            int x = size;
            size++;
            kind[x] = ofKind;
            n[x] = number;
            rename(x, first, second);
            return x;
        }

        /** Those behind x may name it, so what follows for them is found anew, too. */
        void rename(int x, int first, int second) {
            int names = kindOf(x).names;
            c[x] = names >= 1 ? first : NONE;
            d[x] = names == 2 ? second : NONE;
            for (int i = x; i < size; i++) measure(i);
        }

        private void measure(int x) {
            int names = kindOf(x).names;
            int last = LAST_DAY;
            int parts = 1;
            int below = 0;
            if (names >= 1) {
                last = end[c[x]];
                parts += made[c[x]];
                below = deep[c[x]];
            }
            if (names == 2) {
                last = Math.max(last, end[d[x]]);
                parts += made[d[x]];
                below = Math.max(below, deep[d[x]]);
            }
            if (kindOf(x) == Kind.UNTIL) last = Math.min(last, n[x]);
            end[x] = last;
            made[x] = parts;
            deep[x] = below + 1;
        }

        int unnamed() {
            int named = 0;
            for (int x = 0; x < size; x++) {
                if (c[x] != NONE) named |= 1 << c[x];
                if (d[x] != NONE) named |= 1 << d[x];
            }
            return size - Integer.bitCount(named);
        }

        void become(Clauses other) {
            size = other.size;
            System.arraycopy(other.kind, 0, kind, 0, MOST_CLAUSES);
            System.arraycopy(other.n, 0, n, 0, MOST_CLAUSES);
            System.arraycopy(other.c, 0, c, 0, MOST_CLAUSES);
            System.arraycopy(other.d, 0, d, 0, MOST_CLAUSES);
            for (int x = 0; x < size; x++) measure(x);
        }
    }

    /** Clauses by number, in order; a number may be one of no clause any more. */
    private static final class Bag {
        int size = 0;
        final int[] numbers = new int[MOST_IN_BAG];

        boolean append(int x) {
            if (size >= MOST_IN_BAG) return false;
            numbers[size] = x;
            size++;
            return true;
        }

        void become(Bag other) {
            size = other.size;
            System.arraycopy(other.numbers, 0, numbers, 0, MOST_IN_BAG);
        }
    }

    /** All that an image keeps. */
    private static final class Kept {
        final Lattice lattice = new Lattice();
        final Clauses clauses = new Clauses();
        final Bag[] bags = new Bag[BAGS];

        Kept() {
            for (int i = 0; i < BAGS; i++) bags[i] = new Bag();
        }

        void become(Kept other) {
            lattice.become(other.lattice);
            clauses.become(other.clauses);
            for (int i = 0; i < BAGS; i++) bags[i].become(other.bags[i]);
        }
    }

    /**
     * Fractions in slots: one for each clause at each spot, found when first asked for, and a few spare ones.
     * A slot whose lower part is 0 is MUCH.
     */
    private static final class Worth {
        static final int SPOTS = 28;
        static final int UP = SPOTS * MOST_CLAUSES, DOWN = UP + 1, MEAN = UP + 2, SPARE = UP + 3, SLOTS = UP + 4;
        /** Euclid's way ends within 93 turns for numbers of 64 bits. */
        static final int TURNS = 200;

        private final Lattice lattice;
        private final Clauses clauses;
        final long[] above = new long[SLOTS];
        final long[] below = new long[SLOTS];
        private final int[] foundAt = new int[UP];
        private int age = 1;

        Worth(Lattice lattice, Clauses clauses) {
            this.lattice = lattice;
            this.clauses = clauses;
        }

        /** Whatever was found holds for the lattice and the clauses of its age alone. */
        void forget() {
            age++;
        }

        boolean isMuch(int slot) {
            return below[slot] == 0;
        }

        long partOf(int slot, int part) {
            if (isMuch(slot)) return NO + MUCH;
            return part == 0 ? above[slot] : below[slot];
        }

        /** The slot with VALUE of x there. It goes on to earlier clauses or later days alone, so at most 30 deep. */
        int settle(int x, int day, int spot) {
            int slot = x * SPOTS + day * (day + 1) / 2 + spot;
            if (foundAt[slot] == age) return slot;
            int c = clauses.c[x];
            Kind is = day > clauses.end[x] ? Kind.NOTHING : clauses.kindOf(x);
            switch (is) {
                case NOTHING: assign(slot, 0, 1); break;
                case ONE: assign(slot, 1, 1); break;
                case GIVEN: multiply(slot, settle(c, day, spot), -1, 1); break;
                case SCALED: multiply(slot, settle(c, day, spot), clauses.n[x], 1); break;
                case PRICED: multiply(slot, settle(c, day, spot), lattice.priceAt(day, spot), 1); break;
                case BOTH: plus(slot, settle(c, day, spot), settle(clauses.d[x], day, spot)); break;
                case LATE:
                case FREE:
                    if (day == clauses.end[x]) {
                        repeat(slot, settle(c, day, spot));
                    } else {
                        average(slot, x, day, spot);
                        if (is == Kind.FREE) raise(slot, settle(c, day, spot));
                    }
                    break;
                default:
                    int one = picked(x, day, spot);
                    if (one == MUCH) assign(slot, 0, 0);
                    else repeat(slot, settle(one, day, spot));
                    break;
            }
            foundAt[slot] = age;
            return slot;
        }

        /** A slot becomes the greater one of itself and another. */
        private void raise(int slot, int other) {
            if (isMuch(slot) || isMuch(other)) assign(slot, 0, 0);
            else if (order(other, slot) > 0) repeat(slot, other);
        }

        /** Which of the clauses that x names stands for x there; MUCH, if that can't be told. */
        int picked(int x, int day, int spot) {
            int c = clauses.c[x];
            int d = clauses.d[x];
            Kind is = clauses.kindOf(x);
            if (is == Kind.UNTIL) return c;
            if (is == Kind.WHERE) return lattice.priceAt(day, spot) >= clauses.n[x] ? c : d;
            if (day > clauses.end[c]) return d;
            if (is == Kind.THEN || day > clauses.end[d]) return c;
            int e = settle(c, day, spot);
            int f = settle(d, day, spot);
            if (isMuch(e) || isMuch(f)) return MUCH;
            int sign = order(f, e);
            return (is == Kind.BETTER ? sign > 0 : sign < 0) ? d : c;
        }

        /** MEAN of VALUES of x on the day behind this one; day is no later than 5. */
        void average(int into, int x, int day, int spot) {
            int gone = settle(x, day + 1, spot + 1);
            int fallen = settle(x, day + 1, spot);
            multiply(UP, gone, lattice.p, 1);
            multiply(DOWN, fallen, lattice.q - lattice.p, 1);
            plus(into, UP, DOWN);
            reduce(SPARE, lattice.a, lattice.b * lattice.q);
            multiply(into, into, above[SPARE], below[SPARE]);
        }

        /** The day on which FREE x, had on a day no later than its end, is taken; or MUCH. */
        int takenOn(int x, int day, int path) {
            int c = clauses.c[x];
            int end = clauses.end[x];
            for (int t = day; t < end; t++) {
                int spot = Lattice.spotOn(path, t);
                int atOnce = settle(c, t, spot);
                average(MEAN, x, t, spot);
                if (isMuch(atOnce) || isMuch(MEAN)) return MUCH;
                if (order(atOnce, MEAN) >= 0) return t;
            }
            return end;
        }

        private void assign(int slot, long x, long y) {
            above[slot] = x;
            below[slot] = y;
        }

        private void repeat(int slot, int from) {
            assign(slot, above[from], below[from]);
        }

        /** Into a slot: what is in another one, times v of w. */
        private void multiply(int into, int from, long v, long w) {
            long x = above[from];
            long y = below[from];
            if (y == 0 || !productFits(x, v) || !productFits(y, w)) assign(into, 0, 0);
            else reduce(into, x * v, y * w);
        }

        private void plus(int into, int e, int f) {
            long x = above[e];
            long y = below[e];
            long v = above[f];
            long w = below[f];
            boolean fits = y != 0 && w != 0 && productFits(x, w) && productFits(v, y) && productFits(y, w)
                    && sumFits(x * w, v * y);
            if (fits) reduce(into, x * w + v * y, y * w);
            else assign(into, 0, 0);
        }

        /** Into a slot: x of y in lowest terms, y above 0. */
        void reduce(int into, long x, long y) {
            above[into] = 0;
            below[into] = 0;
            if (y <= 0) return;
            long common = y;
            long rest = Math.abs(x % y);
            for (int i = 0; i < TURNS && rest != 0; i++) {
                long next = common % rest;
                common = rest;
                rest = next;
            }
            if (common == 0) return;
            above[into] = x / common;
            below[into] = y / common;
        }

        /**
         * -1, 0, 1 as slot e is less than, like, more than slot f. The whole parts are compared, then what is left of
         * both turned over: so no product is needed, and none can be too much.
         */
        int order(int e, int f) {
            long x = above[e];
            long y = below[e];
            long v = above[f];
            long w = below[f];
            int more = 1;
            for (int i = 0; i < TURNS; i++) {
                if (y <= 0 || w <= 0) return 0;
                long whole = Math.floorDiv(x, y);
                long other = Math.floorDiv(v, w);
                if (whole != other) return whole > other ? more : -more;
                long r = Math.floorMod(x, y);
                long s = Math.floorMod(v, w);
                if (r == 0 && s == 0) return 0;
                if (r == 0 || s == 0) return s == 0 ? more : -more;
                x = y;
                y = r;
                v = w;
                w = s;
                more = -more;
            }
            return 0;
        }

        static boolean sumFits(long x, long y) {
            long all = x + y;
            return ((x ^ all) & (y ^ all)) >= 0;
        }

        static boolean productFits(long x, long y) {
            if (x == 0 || y == 0) return true;
            if (y == -1) return x != Long.MIN_VALUE;
            if (x == -1) return y != Long.MIN_VALUE;
            return x * y / y == x;
        }
    }

    /** What falls due on which day of a path. */
    private static final class Falling {
        private final Lattice lattice;
        private final Clauses clauses;
        private final Worth worth;
        final long[] on = new long[DAYS];
        int days = 0;
        boolean much = false;
        private int path = 0;

        Falling(Lattice lattice, Clauses clauses, Worth worth) {
            this.lattice = lattice;
            this.clauses = clauses;
            this.worth = worth;
        }

        void gather(int x, int day, int along) {
            for (int t = 0; t < DAYS; t++) on[t] = 0;
            days = 0;
            path = along;
            much = clauses.made[x] > MOST_MADE_OF;
            fall(x, day, 1);
        }

        /** It goes on to earlier clauses alone, so at most 24 deep. */
        private void fall(int x, int day, long m) {
            if (much || day > clauses.end[x]) return;
            int c = clauses.c[x];
            switch (clauses.kindOf(x)) {
                case NOTHING: break;
                case ONE: enter(day, m); break;
                case GIVEN: fallTimes(c, day, m, -1); break;
                case SCALED: fallTimes(c, day, m, clauses.n[x]); break;
                case PRICED: fallTimes(c, day, m, lattice.priceAt(day, Lattice.spotOn(path, day))); break;
                case LATE: fall(c, clauses.end[x], m); break;
                case BOTH:
                    fall(c, day, m);
                    fall(clauses.d[x], day, m);
                    break;
                case FREE:
                    int taken = worth.takenOn(x, day, path);
                    if (taken == MUCH) much = true;
                    else fall(c, taken, m);
                    break;
                default:
                    int one = worth.picked(x, day, Lattice.spotOn(path, day));
                    if (one == MUCH) much = true;
                    else fall(one, day, m);
                    break;
            }
        }

        private void fallTimes(int c, int day, long m, long times) {
            if (Worth.productFits(m, times)) fall(c, day, m * times);
            else much = true;
        }

        private void enter(int day, long m) {
            days |= 1 << day;
            if (Worth.sumFits(on[day], m)) on[day] += m;
            else much = true;
        }

        /** What falls due from one day on until ahead of another one. */
        long total(int from, int until) {
            long all = 0;
            for (int t = from; t < until; t++) {
                if (!Worth.sumFits(all, on[t])) much = true;
                all += on[t];
            }
            return all;
        }
    }

    /** The bytes of a text, and the words and numbers that were found in it. */
    private static final class Tape {
        private static final int BLANK = 32, MINUS = 45, DIGIT_0 = 48, DIGIT_9 = 57, LETTER_A = 97, LETTER_Z = 122;
        private static final int NO_NUMBER = 1000;

        int size = 0;
        private final int[] bytes = new int[MOST_BYTES];
        private final int[] kinds = new int[MOST_CLAUSES];
        private final int[] numbers = new int[MOST_CLAUSES];
        private int words = 0;
        /** The word that is built next. */
        int next = 0;
        private int number = 0;

        void append(int one) {
            if (size >= MOST_BYTES) return;
            bytes[size] = one;
            size++;
        }

        /** The first byte of what can't stand where it does; NONE, if one clause is told, for which there is room. */
        int scan(int room) {
            int at = 0;
            int awaited = 1;
            boolean numberAwaited = false;
            words = 0;
            for (int turn = 0; turn < MOST_BYTES && at < size; turn++) {
                int end = at + 1;
                if (bytes[at] == BLANK) {
                    at = end;
                    continue;
                }
                if (numberAwaited) {
                    Kind is = Kind.ALL[kinds[words - 1]];
                    end = numberEnd(at);
                    if (!within(number, is.least, is.most)) return at;
                    numbers[words - 1] = number;
                    numberAwaited = false;
                } else {
                    end = wordEnd(at);
                    int kind = kindAt(at, end);
                    if (awaited == 0 || kind == NONE) return at;
                    Kind is = Kind.ALL[kind];
                    awaited += is.names - 1;
                    if (words + 1 + awaited > room) return at;
                    kinds[words] = kind;
                    numbers[words] = 0;
                    words++;
                    numberAwaited = is.numbered();
                }
                at = end;
            }
            return awaited > 0 || numberAwaited ? size : NONE;
        }

        private int wordEnd(int at) {
            int end = at;
            while (end < size && within(bytes[end], LETTER_A, LETTER_Z)) end++;
            return end;
        }

        private int kindAt(int at, int end) {
            for (int kind = 0; kind < Kind.ALL.length; kind++) {
                if (isWord(Kind.ALL[kind].word, at, end)) return kind;
            }
            return NONE;
        }

        private boolean isWord(String word, int at, int end) {
            if (word.length() != end - at) return false;
            for (int i = 0; i < word.length(); i++) {
                if (word.charAt(i) != bytes[at + i]) return false;
            }
            return true;
        }

        /** Reads a number; if none stands there, or one that no kind takes, it is NO_NUMBER. */
        private int numberEnd(int at) {
            int first = bytes[at] == MINUS ? at + 1 : at;
            int end = first;
            number = 0;
            while (end < size && within(bytes[end], DIGIT_0, DIGIT_9)) {
                number = Math.min(number * 10 + bytes[end] - DIGIT_0, NO_NUMBER);
                end++;
            }
            if (end == first) number = NO_NUMBER;
            if (first > at && number != NO_NUMBER) number = -number;
            return end;
        }

        /** The clause of the next word comes behind those that it names; at most 24 words, so no deeper. */
        int build(Clauses clauses) {
            if (next >= words) return NONE;
            int at = next;
            next++;
            int names = Kind.ALL[kinds[at]].names;
            int c = names >= 1 ? build(clauses) : 0;
            int d = names == 2 ? build(clauses) : 0;
            return clauses.append(kinds[at], numbers[at], c, d);
        }
    }

    /** A row of numbers of one sort; the rows of all sorts are made once and used again. */
    private static final class Sheet {
        int sort = MISSING;
        int size = 0;
        private final int[] ints = new int[MOST_PLACES];
        private final long[] longs = new long[MOST_PLACES];
        private final float[] floats = new float[MOST_PLACES];
        private final double[] doubles = new double[MOST_PLACES];

        void become(int ofSort, int n) {
            sort = ofSort;
            size = n;
            for (int i = 0; i < n; i++) store(i, 0);
        }

        /** False, if the row is one of ints, and v is none. */
        boolean store(int i, long v) {
            switch (sort) {
                case INTS:
                    if (v != (int) v) return false;
                    ints[i] = (int) v;
                    return true;
                case LONGS:
                    longs[i] = v;
                    return true;
                case FLOATS:
                    floats[i] = (float) v;
                    return true;
                default:
                    doubles[i] = (double) v;
                    return true;
            }
        }

        long asItIs(int i) {
            switch (sort) {
                case INTS: return ints[i];
                case LONGS: return longs[i];
                case FLOATS: return Host.floatBits(floats[i]);
                default: return Host.doubleBits(doubles[i]);
            }
        }

        int asInt(int i) {
            switch (sort) {
                case INTS: return ints[i];
                case LONGS: return (int) longs[i];
                case FLOATS: return (int) floats[i];
                default: return (int) doubles[i];
            }
        }

        long asLong(int i) {
            switch (sort) {
                case INTS: return ints[i];
                case LONGS: return longs[i];
                case FLOATS: return (long) floats[i];
                default: return (long) doubles[i];
            }
        }

        double asDouble(int i) {
            switch (sort) {
                case INTS: return (double) ints[i];
                case LONGS: return (double) longs[i];
                case FLOATS: return (double) floats[i];
                default: return doubles[i];
            }
        }

        void cutInHalf(int i) {
            switch (sort) {
                case INTS:
                    ints[i] = ints[i] / 2;
                    break;
                case LONGS:
                    longs[i] = longs[i] / 2;
                    break;
                case FLOATS:
                    floats[i] = floats[i] / 2;
                    break;
                default:
                    doubles[i] = doubles[i] / 2;
                    break;
            }
        }

        boolean hasRun(int i, int n) {
            return n >= 0 && n <= size && i >= 0 && i <= size - n;
        }

        /** Both are of one sort, and both have the run. */
        void moveFrom(Sheet source, int i, int j, int n) {
            switch (sort) {
                case INTS:
                    System.arraycopy(source.ints, i, ints, j, n);
                    break;
                case LONGS:
                    System.arraycopy(source.longs, i, longs, j, n);
                    break;
                case FLOATS:
                    System.arraycopy(source.floats, i, floats, j, n);
                    break;
                default:
                    System.arraycopy(source.doubles, i, doubles, j, n);
                    break;
            }
        }
    }

    /** What is held: nothing, a clause by number, or a fraction. */
    private static final class Hand {
        int sort = HOLDS_NOTHING;
        int number = 0;
        long above = 0;
        long below = 1;

        int fractionFault() {
            if (sort == HOLDS_NOTHING) return NOTHING;
            return sort == HOLDS_FRACTION ? 0 : KIND;
        }
    }

    /**
     * Bits and remainders of floats and doubles by + - * / alone: the language that the program keeps to has neither
     * Double.doubleToLongBits() nor % on them.
     */
    private static final class Host {
        static final int DOUBLE_WIDTH = 52, DOUBLE_LEAST = -1022, FLOAT_WIDTH = 23, FLOAT_LEAST = -126;
        /** No double can be doubled or halved more often. */
        static final int STEPS = 2200;

        static long doubleBits(double v) {
            long bits = packed(v, DOUBLE_WIDTH, DOUBLE_LEAST);
            return isNegative(v) ? bits | Long.MIN_VALUE : bits;
        }

        static int floatBits(float v) {
            int bits = (int) packed((double) v, FLOAT_WIDTH, FLOAT_LEAST);
            return isNegative((double) v) ? bits | Integer.MIN_VALUE : bits;
        }

        /** One by -0.0 is told from one by 0.0 by its sign: nothing else here tells them apart. */
        private static boolean isNegative(double v) {
            return v < 0 || v == 0 && 1 / v < 0;
        }

        /** The bits without the sign: the 1 ahead of the point is what is missing in the exponent's bits. */
        private static long packed(double v, int width, int least) {
            double m = v < 0 ? -v : v;
            if (m == 0) return 0;
            int exponent = 0;
            for (int i = 0; i < STEPS && m >= 2; i++) {
                m = m / 2;
                exponent++;
            }
            for (int i = 0; i < STEPS && m < 1 && exponent > least; i++) {
                m = m * 2;
                exponent--;
            }
            long digits = (long) (m * (double) (1L << width));
            return ((long) (exponent - least) << width) + digits;
        }

        /** What % answers, y above 0; each step is exact, since what is taken away is more than half of what is there. */
        static double remainder(double x, double y) {
            double left = x < 0 ? -x : x;
            double step = y;
            int doubled = 0;
            for (int i = 0; i < STEPS && step <= left / 2; i++) {
                step = step * 2;
                doubled++;
            }
            for (int i = 0; i <= doubled; i++) {
                if (left >= step) left = left - step;
                step = step / 2;
            }
            return x < 0 ? -left : left;
        }
    }
}
