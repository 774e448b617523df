import java.util.Arrays;

/**
 * A field walked for sherds: walks and their finds, eyes, heaps, ploughs, periods, leaves and
 * sheets. All rows are made with the object and used again, so no call makes anything new.
 */
public final class SherdField {
    public static final int BAD = -1000000001, NO = -1000000002, FULL = -1000000003, NONE = -1000000005, NOTHING = -1000000011, INDEX = -1000000013, SIZE = -1000000014;

    private static final int LEAST_SIDE = 2, MOST_SIDE = 8, MOST_PACES = 64;
    private static final int KINDS = 4, WALKERS = 5, PERIODS = 3, SHEETS = 2;
    private static final int LAST_DAY = 400, MOST_DAYS = 60;
    private static final int MOST_OF_A_FIND = 99, MOST_SHUFFLES = 99, MOST_SPARE = 9;
    private static final int MOST_PLOUGHS = 50, MOST_OF_A_PROFILE = 100;
    private static final int FIRST_FAULT = -100;
    /** What the classes inside answer for "there is none", where numbers count from 0. */
    private static final int ABSENT = -1;

    private final Ground ground = new Ground();
    private final Sorts sorts = new Sorts();
    private final Walks walks = new Walks();
    private final Finds finds = new Finds();
    private final Eyes eyes;
    private final Heaps heaps;
    private final Periods periods = new Periods();
    private final Tape tape = new Tape();
    private final LeaveReader reader;
    private final Leaves leaves = new Leaves();
    private final Sheet firstSheet = new Sheet();
    private final Sheet secondSheet = new Sheet();
    private int today = 0;
    private int seed = 1;
    private int spare = 0;

    public SherdField() {
        eyes = new Eyes(walks, sorts);
        heaps = new Heaps(ground, walks, eyes, sorts);
        reader = new LeaveReader(tape);
    }

    // ---- the field, walks

    public int field(int wide, int high) {
        if (!within(wide, LEAST_SIDE, MOST_SIDE) || !within(high, LEAST_SIDE, MOST_SIDE)) {
            return BAD;
        }
        ground.renew(wide, high);
        walks.clear();
        finds.clear();
        return ground.paces();
    }

    public int sort(int kind, int sort) {
        if (!isKind(kind) || !Sorts.isSort(sort)) {
            return BAD;
        }
        return sorts.become(kind, sort);
    }

    public int isOf(int kind, int sort) {
        if (!isKind(kind) || !Sorts.isSort(sort)) {
            return BAD;
        }
        return toInt(sorts.counts(kind, sort));
    }

    public int walk(int walker, int row) {
        if (!isWalker(walker) || !ground.hasRow(row)) {
            return BAD;
        }
        if (leaves.wereGiven() && leaves.firstLetting(walker, row, today) == ABSENT) {
            return NO;
        }
        if (walks.isFull()) {
            return FULL;
        }
        return walks.add(walker, row, today);
    }

    public int find(int walk, int pace, int kind, int n) {
        if (!walks.has(walk) || !isKind(kind) || !within(n, 1, MOST_OF_A_FIND)) {
            return BAD;
        }
        if (!ground.hasPace(pace) || ground.rowOf(pace) != walks.rowOf(walk)) {
            return BAD;
        }
        if (finds.isFull()) {
            return FULL;
        }
        walks.bear(walk, ground.columnOf(pace), kind, n);
        return finds.add(walk, pace, kind, n);
    }

    public int told(int walk, int what) {
        if (!walks.has(walk)) {
            return BAD;
        }
        switch (what) {
            case 0:
                return walks.walkerOf(walk);
            case 1:
                return walks.rowOf(walk);
            case 2:
                return walks.dayOf(walk);
            case 3:
                return walks.total(walk);
            case 4:
                return toInt(walks.teller(walks.rowOf(walk)) == walk);
            default:
                return BAD;
        }
    }

    public int of(int find, int what) {
        if (!finds.has(find)) {
            return BAD;
        }
        switch (what) {
            case 0:
                return finds.walkOf(find);
            case 1:
                return finds.paceOf(find);
            case 2:
                return finds.kindOf(find);
            case 3:
                return finds.numberOf(find);
            default:
                return BAD;
        }
    }

    public int count(int pace, int kind) {
        if (!ground.hasPace(pace) || !isKind(kind)) {
            return BAD;
        }
        return walks.borne(tellerAt(pace), ground.columnOf(pace), kind);
    }

    public int gap() {
        for (int row = 0; row < ground.rows(); row++) {
            if (walks.teller(row) == ABSENT) {
                return row;
            }
        }
        return NONE;
    }

    public int led(int pace, int i) {
        if (!ground.hasPace(pace) || i < 0) {
            return BAD;
        }
        int find = finds.inWalkAt(tellerAt(pace), pace, i);
        return find == ABSENT ? NONE : find;
    }

    // ---- eyes, heaps

    public int pair(int walker, int other, int what) {
        if (!isWalker(walker) || !isWalker(other) || walker == other) {
            return BAD;
        }
        switch (what) {
            case 0:
                return eyes.pairs(walker, other);
            case 1:
                return eyes.seenBeside(walker, other);
            case 2:
                return eyes.seenBeside(other, walker);
            default:
                return BAD;
        }
    }

    public int eye(int walker) {
        return isWalker(walker) ? eyes.hundredths(walker) : BAD;
    }

    public int corrected(int pace, int kind) {
        if (!ground.hasPace(pace) || !isKind(kind)) {
            return BAD;
        }
        int teller = tellerAt(pace);
        int borne = walks.borne(teller, ground.columnOf(pace), kind);
        return eyes.amend(kind, borne, eyes.ofTeller(teller));
    }

    public int worth(int pace, int what) {
        if (!ground.hasPace(pace) || !within(what, 0, 1)) {
            return BAD;
        }
        heaps.lay();
        return what == 0 ? heaps.worthAt(pace) : heaps.sumAround(pace);
    }

    public int greatest() {
        heaps.lay();
        return heaps.richest();
    }

    public int heap(int pace, int shuffles) {
        if (!ground.hasPace(pace) || !within(shuffles, 1, MOST_SHUFFLES)) {
            return BAD;
        }
        heaps.lay();
        return toInt(heaps.standsOut(pace, shuffles, seed, spare));
    }

    public int spade(int pace, int found) {
        if (!ground.hasPace(pace) || !within(found, 0, 1)) {
            return BAD;
        }
        int was = toInt(!ground.isBarren(pace));
        ground.dig(pace, found == 0);
        return was;
    }

    public int rule(int which, int v) {
        if (which == 0) {
            int was = seed;
            seed = v;
            return was;
        }
        if (which != 1 || !within(v, 0, MOST_SPARE)) {
            return BAD;
        }
        int was = spare;
        spare = v;
        return was;
    }

    // ---- plough, periods

    public int plough(int pace, int n) {
        if (!ground.hasPace(pace) || !within(n, 0, MOST_PLOUGHS)) {
            return BAD;
        }
        if (firstSheet.isMissing()) {
            return NOTHING;
        }
        return ground.behindPloughs(firstSheet, pace, n);
    }

    public int profile(int period, int kind, int v) {
        if (!isPeriod(period) || !isKind(kind) || !within(v, 0, MOST_OF_A_PROFILE)) {
            return BAD;
        }
        return periods.become(period, kind, v);
    }

    public int mixed(int period) {
        if (!isPeriod(period)) {
            return BAD;
        }
        for (int kind = 0; kind < KINDS; kind++) {
            periods.tell(kind, countedOf(kind));
        }
        return periods.bestPart(period);
    }

    // ---- leave, days, sheets

    public int feed(int a, int b, int c) {
        if (!tape.hasRoom()) {
            return FULL;
        }
        tape.add(a);
        tape.add(b);
        tape.add(c);
        return tape.length();
    }

    public int trim(int n) {
        if (!within(n, 0, tape.length())) {
            return BAD;
        }
        tape.keep(n);
        return n;
    }

    public int leave() {
        int fault = reader.read();
        tape.keep(0);
        if (fault != ABSENT) {
            return FIRST_FAULT - fault;
        }
        if (leaves.isFull()) {
            return FULL;
        }
        return leaves.add(reader);
    }

    public int withdraw(int leave) {
        if (!leaves.has(leave)) {
            return BAD;
        }
        if (leaves.isWithdrawn(leave)) {
            return NO;
        }
        leaves.takeBack(leave);
        return 1;
    }

    public int lets(int walker, int row, int day) {
        if (!isWalker(walker) || !within(row, 0, MOST_SIDE - 1) || !within(day, 0, LAST_DAY)) {
            return BAD;
        }
        int leave = leaves.firstLetting(walker, row, day);
        return leave == ABSENT ? NONE : leave;
    }

    public int days(int n) {
        if (!within(n, 1, MOST_DAYS) || today + n > LAST_DAY) {
            return BAD;
        }
        today += n;
        return today;
    }

    public int sheet(int s, int n) {
        if (!isSheet(s) || n > Sheet.MOST) {
            return BAD;
        }
        if (n < 0) {
            return SIZE;
        }
        sheetNumbered(s).renew(n);
        return n;
    }

    public int mark(int s, int place, int v) {
        if (!isSheet(s)) {
            return BAD;
        }
        Sheet sheet = sheetNumbered(s);
        if (sheet.isMissing()) {
            return NOTHING;
        }
        if (!sheet.has(place)) {
            return INDEX;
        }
        return sheet.put(place, v);
    }

    public int copy(int from, int place, int to, int at, int many) {
        if (!isSheet(from) || !isSheet(to)) {
            return BAD;
        }
        Sheet source = sheetNumbered(from);
        Sheet target = sheetNumbered(to);
        if (source.isMissing() || target.isMissing()) {
            return NOTHING;
        }
        if (!source.hasRun(place, many) || !target.hasRun(at, many)) {
            return INDEX;
        }
        target.take(source, place, at, many);
        return many;
    }

    public int lose(int s) {
        if (!isSheet(s)) {
            return BAD;
        }
        Sheet sheet = sheetNumbered(s);
        return sheet.isMissing() ? NOTHING : sheet.vanish();
    }

    public int many(int what) {
        switch (what) {
            case 0:
                return ground.paces();
            case 1:
                return walks.number();
            case 2:
                return finds.number();
            case 3:
                return gaps();
            case 4:
                return leaves.standing();
            case 5:
                return today;
            case 6:
                return tape.length();
            case 7:
                return ground.barrenPaces();
            default:
                return BAD;
        }
    }

    // ---- helpers of several calls

    private static boolean within(int n, int least, int most) {
        return n >= least && n <= most;
    }

    private static int toInt(boolean holds) {
        return holds ? 1 : 0;
    }

    private static boolean isKind(int kind) {
        return within(kind, 0, KINDS - 1);
    }

    private static boolean isWalker(int walker) {
        return within(walker, 0, WALKERS - 1);
    }

    private static boolean isPeriod(int period) {
        return within(period, 0, PERIODS - 1);
    }

    private static boolean isSheet(int s) {
        return within(s, 0, SHEETS - 1);
    }

    private Sheet sheetNumbered(int s) {
        return s == 0 ? firstSheet : secondSheet;
    }

    private int tellerAt(int pace) {
        return walks.teller(ground.rowOf(pace));
    }

    private int countedOf(int kind) {
        int sum = 0;
        for (int row = 0; row < ground.rows(); row++) {
            sum += walks.sumOf(walks.teller(row), kind);
        }
        return sum;
    }

    private int gaps() {
        int found = 0;
        for (int row = 0; row < ground.rows(); row++) {
            if (walks.teller(row) == ABSENT) {
                found++;
            }
        }
        return found;
    }

    /** The paces: how they lie, where a spade found nothing, what a plough spreads over them. */
    private static final class Ground {
        private static final int MOST_TOLD = 9999;

        private int wide = 5;
        private int high = 4;
        /** A bit for each pace, for there are never more than a long has. */
        private long barren = 0;
        private int[] lying = new int[MOST_PACES];
        private int[] spread = new int[MOST_PACES];

        void renew(int newWide, int newHigh) {
            wide = newWide;
            high = newHigh;
            barren = 0;
        }

        int paces() {
            return wide * high;
        }

        int rows() {
            return high;
        }

        int columns() {
            return wide;
        }

        boolean hasPace(int pace) {
            return pace >= 0 && pace < paces();
        }

        boolean hasRow(int row) {
            return row >= 0 && row < high;
        }

        int rowOf(int pace) {
            return wide > 0 ? pace / wide : 0;
        }

        int columnOf(int pace) {
            return pace - rowOf(pace) * wide;
        }

        boolean isBarren(int pace) {
            return (barren >>> pace & 1) != 0;
        }

        void dig(int pace, boolean nothing) {
            long bit = 1L << pace;
            barren = nothing ? barren | bit : barren & ~bit;
        }

        int barrenPaces() {
            return Long.bitCount(barren);
        }

        int ringSum(int[] values, int pace) {
            int row = rowOf(pace);
            int column = columnOf(pace);
            int top = Math.max(row - 1, 0);
            int bottom = Math.min(row + 1, high - 1);
            int left = Math.max(column - 1, 0);
            int right = Math.min(column + 1, wide - 1);
            int sum = 0;
            for (int r = top; r <= bottom; r++) {
                for (int c = left; c <= right; c++) {
                    sum += values[r * wide + c];
                }
            }
            return sum;
        }

        int greatestRing(int[] values) {
            int best = 0;
            int bestSum = ringSum(values, 0);
            for (int pace = 1; pace < paces(); pace++) {
                int sum = ringSum(values, pace);
                if (sum > bestSum) {
                    best = pace;
                    bestSum = sum;
                }
            }
            return best;
        }

        int behindPloughs(Sheet sheet, int pace, int times) {
            for (int p = 0; p < paces(); p++) {
                int told = sheet.has(p) ? sheet.at(p) : 0;
                lying[p] = within(told, 0, MOST_TOLD) ? told : 0;
            }
            for (int done = 0; done < times; done++) {
                ploughOnce();
            }
            return lying[pace];
        }

        /** All paces go at once, so what is spread is gathered in a row of its own. */
        private void ploughOnce() {
            Arrays.fill(spread, 0);
            for (int pace = 0; pace < paces(); pace++) {
                spreadFrom(pace);
            }
            int[] former = lying;
            lying = spread;
            spread = former;
        }

        private void spreadFrom(int pace) {
            boolean left = columnOf(pace) > 0;
            boolean right = columnOf(pace) < wide - 1;
            boolean above = rowOf(pace) > 0;
            boolean below = rowOf(pace) < high - 1;
            int sides = toInt(left) + toInt(right) + toInt(above) + toInt(below);
            int part = sides > 0 ? lying[pace] / 2 / sides : 0;
            spread[pace] += lying[pace] - part * sides;
            if (left) {
                spread[pace - 1] += part;
            }
            if (right) {
                spread[pace + 1] += part;
            }
            if (above) {
                spread[pace - wide] += part;
            }
            if (below) {
                spread[pace + wide] += part;
            }
        }
    }

    /** Of which sort each kind is. */
    private static final class Sorts {
        private static final int SHERD = 0, COARSE = 1, FINE = 2, PAINTED = 3;

        private final int[] sortOf = new int[] {SHERD, COARSE, FINE, PAINTED};

        static boolean isSort(int sort) {
            return within(sort, SHERD, PAINTED);
        }

        int become(int kind, int sort) {
            int was = sortOf[kind];
            sortOf[kind] = sort;
            return was;
        }

        boolean counts(int kind, int sort) {
            int own = sortOf[kind];
            return sort == SHERD || own == sort || (sort == FINE && own == PAINTED);
        }

        boolean isCoarse(int kind) {
            return sortOf[kind] == COARSE;
        }

        int weight(int kind) {
            if (sortOf[kind] == PAINTED) {
                return 3;
            }
            return sortOf[kind] == FINE ? 2 : 1;
        }
    }

    /** The walks, and what each bears at each place of its row. */
    private static final class Walks {
        private static final int MOST = 60;

        private final int[] walkers = new int[MOST];
        private final int[] rows = new int[MOST];
        private final int[] days = new int[MOST];
        private final int[] sums = new int[MOST * KINDS];
        private final int[] tallies = new int[MOST * MOST_SIDE * KINDS];
        private int number = 0;

        void clear() {
            number = 0;
            Arrays.fill(sums, 0);
            Arrays.fill(tallies, 0);
        }

        int number() {
            return number;
        }

        boolean isFull() {
            return number >= MOST;
        }

        boolean has(int walk) {
            return walk >= 0 && walk < number;
        }

        int add(int walker, int row, int day) {
            walkers[number] = walker;
            rows[number] = row;
            days[number] = day;
            number++;
            return number - 1;
        }

        int walkerOf(int walk) {
            return walkers[walk];
        }

        int rowOf(int walk) {
            return rows[walk];
        }

        int dayOf(int walk) {
            return days[walk];
        }

        void bear(int walk, int column, int kind, int n) {
            sums[walk * KINDS + kind] += n;
            tallies[tallyPlace(walk, column, kind)] += n;
        }

        /** 0 for an absent walk: a row without a walk counts nothing. */
        int borne(int walk, int column, int kind) {
            return has(walk) ? tallies[tallyPlace(walk, column, kind)] : 0;
        }

        int sumOf(int walk, int kind) {
            return has(walk) ? sums[walk * KINDS + kind] : 0;
        }

        int total(int walk) {
            int total = 0;
            for (int kind = 0; kind < KINDS; kind++) {
                total += sumOf(walk, kind);
            }
            return total;
        }

        /** The walk whose counts are the row's own; ABSENT for a gap. */
        int teller(int row) {
            int best = ABSENT;
            int bestTotal = ABSENT;
            for (int walk = 0; walk < number; walk++) {
                if (rows[walk] == row && total(walk) > bestTotal) {
                    best = walk;
                    bestTotal = total(walk);
                }
            }
            return best;
        }

        private static int tallyPlace(int walk, int column, int kind) {
            return (walk * MOST_SIDE + column) * KINDS + kind;
        }
    }

    /** The finds, one by one as they came. */
    private static final class Finds {
        private static final int MOST = 200;

        private final int[] walks = new int[MOST];
        private final int[] paces = new int[MOST];
        private final int[] kinds = new int[MOST];
        private final int[] numbers = new int[MOST];
        private int number = 0;

        void clear() {
            number = 0;
        }

        int number() {
            return number;
        }

        boolean isFull() {
            return number >= MOST;
        }

        boolean has(int find) {
            return find >= 0 && find < number;
        }

        int add(int walk, int pace, int kind, int n) {
            walks[number] = walk;
            paces[number] = pace;
            kinds[number] = kind;
            numbers[number] = n;
            number++;
            return number - 1;
        }

        int walkOf(int find) {
            return walks[find];
        }

        int paceOf(int find) {
            return paces[find];
        }

        int kindOf(int find) {
            return kinds[find];
        }

        int numberOf(int find) {
            return numbers[find];
        }

        int inWalkAt(int walk, int pace, int i) {
            int ahead = 0;
            for (int find = 0; find < number; find++) {
                if (walks[find] == walk && paces[find] == pace) {
                    if (ahead == i) {
                        return find;
                    }
                    ahead++;
                }
            }
            return ABSENT;
        }
    }

    /** What walkers miss, told by rows that two of them walked. */
    private static final class Eyes {
        private static final int WHOLE = 100, MOST_AMENDED = 9999;

        private final Walks walks;
        private final Sorts sorts;

        Eyes(Walks walks, Sorts sorts) {
            this.walks = walks;
            this.sorts = sorts;
        }

        int pairs(int walker, int other) {
            int pairs = 0;
            for (int walk = 0; walk < walks.number(); walk++) {
                if (walks.walkerOf(walk) == walker) {
                    pairs += walksBeside(walk, other);
                }
            }
            return pairs;
        }

        /** What a walk saw counts once for each pair that it stands in. */
        int seenBeside(int walker, int other) {
            int seen = 0;
            for (int walk = 0; walk < walks.number(); walk++) {
                if (walks.walkerOf(walk) == walker) {
                    seen += seenIn(walk) * walksBeside(walk, other);
                }
            }
            return seen;
        }

        int hundredths(int walker) {
            int saw = 0;
            int betterSaw = 0;
            for (int walk = 0; walk < walks.number(); walk++) {
                if (walks.walkerOf(walk) == walker) {
                    int seen = seenIn(walk);
                    for (int other = 0; other < walks.number(); other++) {
                        if (arePair(walk, other)) {
                            saw += seen;
                            betterSaw += Math.max(seen, seenIn(other));
                        }
                    }
                }
            }
            return betterSaw > 0 ? WHOLE * saw / betterSaw : WHOLE;
        }

        int ofTeller(int walk) {
            return walks.has(walk) ? hundredths(walks.walkerOf(walk)) : WHOLE;
        }

        /** A count as it would be, had its walker missed nothing. */
        int amend(int kind, int counted, int eye) {
            if (counted == 0 || sorts.isCoarse(kind)) {
                return counted;
            }
            return eye > 0 ? Math.min(counted * WHOLE / eye, MOST_AMENDED) : MOST_AMENDED;
        }

        private boolean arePair(int walk, int other) {
            return walks.rowOf(walk) == walks.rowOf(other)
                && walks.walkerOf(walk) != walks.walkerOf(other);
        }

        private int walksBeside(int walk, int walker) {
            int beside = 0;
            for (int other = 0; other < walks.number(); other++) {
                if (walks.walkerOf(other) == walker && arePair(walk, other)) {
                    beside++;
                }
            }
            return beside;
        }

        private int seenIn(int walk) {
            int seen = 0;
            for (int kind = 0; kind < KINDS; kind++) {
                if (!sorts.isCoarse(kind)) {
                    seen += walks.sumOf(walk, kind);
                }
            }
            return seen;
        }
    }

    /** Worths of the paces, and heaps told from noise. */
    private static final class Heaps {
        private static final int TIMES = 1103515245, PLUS = 12345, SHIFT = 8;

        private final Ground ground;
        private final Walks walks;
        private final Eyes eyes;
        private final Sorts sorts;
        private final int[] worths = new int[MOST_PACES];
        private final int[] walked = new int[MOST_PACES];

        Heaps(Ground ground, Walks walks, Eyes eyes, Sorts sorts) {
            this.ground = ground;
            this.walks = walks;
            this.eyes = eyes;
            this.sorts = sorts;
        }

        /** Comes ahead of every question: finds, sorts and spades may have changed the worths. */
        void lay() {
            for (int row = 0; row < ground.rows(); row++) {
                int teller = walks.teller(row);
                int eye = eyes.ofTeller(teller);
                for (int column = 0; column < ground.columns(); column++) {
                    int pace = row * ground.columns() + column;
                    worths[pace] = ground.isBarren(pace) ? 0 : weighed(teller, column, eye);
                }
            }
        }

        int worthAt(int pace) {
            return worths[pace];
        }

        int sumAround(int pace) {
            return ground.ringSum(worths, pace);
        }

        int richest() {
            return ground.greatestRing(worths);
        }

        /** Leaves the worths shuffled. */
        boolean standsOut(int pace, int shuffles, int seed, int spare) {
            int sum = sumAround(pace);
            int among = gatherWalked();
            int w = seed;
            int missed = 0;
            for (int done = 0; done < shuffles && missed <= spare; done++) {
                w = shuffle(among, w);
                if (sum <= sumAround(richest())) {
                    missed++;
                }
            }
            return missed <= spare;
        }

        private int weighed(int teller, int column, int eye) {
            int worth = 0;
            for (int kind = 0; kind < KINDS; kind++) {
                int borne = walks.borne(teller, column, kind);
                worth += sorts.weight(kind) * eyes.amend(kind, borne, eye);
            }
            return worth;
        }

        private int gatherWalked() {
            int among = 0;
            for (int row = 0; row < ground.rows(); row++) {
                if (walks.teller(row) != ABSENT) {
                    for (int column = 0; column < ground.columns(); column++) {
                        walked[among] = row * ground.columns() + column;
                        among++;
                    }
                }
            }
            return among;
        }

        /** Answers where w has come to, for the next shuffle goes on from there. */
        private int shuffle(int among, int from) {
            int w = from;
            for (int i = among - 1; i > 0; i--) {
                w = w * TIMES + PLUS;
                int here = walked[i];
                int there = walked[(w >>> SHIFT) % (i + 1)];
                int worth = worths[here];
                worths[here] = worths[there];
                worths[there] = worth;
            }
            return w;
        }
    }

    /** Profiles of periods, and the parts of them that fit what is counted best. */
    private static final class Periods {
        private static final int PARTS = 20;

        private final int[] profiles = new int[PERIODS * KINDS];
        private final int[] counted = new int[KINDS];
        private final int[] best = new int[PERIODS];

        int become(int period, int kind, int v) {
            int was = profiles[period * KINDS + kind];
            profiles[period * KINDS + kind] = v;
            return was;
        }

        void tell(int kind, int n) {
            counted[kind] = n;
        }

        int bestPart(int period) {
            seekBest();
            return best[period];
        }

        /** Goes from the greatest parts down, so that the first of several like fits stays. */
        private void seekBest() {
            long least = ABSENT;
            for (int a = PARTS; a >= 0; a--) {
                for (int b = PARTS - a; b >= 0; b--) {
                    long misfit = misfit(a, b, PARTS - a - b);
                    if (least == ABSENT || misfit < least) {
                        least = misfit;
                        best[0] = a;
                        best[1] = b;
                        best[2] = PARTS - a - b;
                    }
                }
            }
        }

        private long misfit(int a, int b, int c) {
            long sum = 0;
            for (int kind = 0; kind < KINDS; kind++) {
                long off = PARTS * counted[kind] - a * profiles[kind]
                    - b * profiles[KINDS + kind] - c * profiles[2 * KINDS + kind];
                sum += off * off;
            }
            return sum;
        }
    }

    /** The bytes that a leave is read from. */
    private static final class Tape {
        private static final int MOST = 60, BYTES_OF_A_NUMBER = 4, NUMBERS_OF_A_FEED = 3;

        private final byte[] bytes = new byte[MOST];
        private int length = 0;

        int length() {
            return length;
        }

        boolean hasRoom() {
            return length + NUMBERS_OF_A_FEED * BYTES_OF_A_NUMBER <= MOST;
        }

        void add(int number) {
            for (int shift = 24; shift >= 0 && length < MOST; shift -= 8) {
                bytes[length] = (byte) (number >>> shift);
                length++;
            }
        }

        void keep(int n) {
            length = n;
        }

        int at(int place) {
            return bytes[place] & 255;
        }
    }

    /** Reads the tape as a leave, word by word, up to its first fault. */
    private static final class LeaveReader {
        private static final int BLANK = 32, LAST_ROW = 7, FAR_TOO_MUCH = 100000;

        private final Tape tape;
        /** The word at hand, from start up to end; empty behind the last byte of the tape. */
        private int start;
        private int end;
        private int fault;
        private int firstRow;
        private int lastRow;
        private int firstDay;
        private int lastDay;
        /** A bit for each walker whom the leave leaves out. */
        private int barred;

        LeaveReader(Tape tape) {
            this.tape = tape;
        }

        /** The place of the first fault; ABSENT if the tape is a leave. */
        int read() {
            fault = ABSENT;
            end = 0;
            goOn();
            readRows();
            readDays();
            readBarred();
            if (start < tape.length()) {
                tellFault();
            }
            return fault;
        }

        int firstRow() {
            return firstRow;
        }

        int lastRow() {
            return lastRow;
        }

        int firstDay() {
            return firstDay;
        }

        int lastDay() {
            return lastDay;
        }

        int barred() {
            return barred;
        }

        private void readRows() {
            expect("rows");
            firstRow = expectNumber(0, LAST_ROW);
            expect("to");
            lastRow = expectNumber(firstRow, LAST_ROW);
        }

        private void readDays() {
            firstDay = 0;
            lastDay = LAST_DAY;
            if (isSound() && isAt("days")) {
                goOn();
                firstDay = expectNumber(0, LAST_DAY);
                expect("to");
                lastDay = expectNumber(firstDay, LAST_DAY);
            }
        }

        private void readBarred() {
            barred = 0;
            if (isSound() && isAt("but")) {
                goOn();
                expect("who");
                int walker = expectNumber(0, WALKERS - 1);
                barred = 1 << walker;
                for (int more = 1; more <= WALKERS && isSound() && isAt("or"); more++) {
                    goOn();
                    walker = expectNumber(walker + 1, WALKERS - 1);
                    barred |= 1 << walker;
                }
            }
        }

        private boolean isSound() {
            return fault == ABSENT;
        }

        /** Only the first fault is told. */
        private void tellFault() {
            if (isSound()) {
                fault = start;
            }
        }

        private void expect(String word) {
            if (isSound() && isAt(word)) {
                goOn();
            } else {
                tellFault();
            }
        }

        private int expectNumber(int least, int most) {
            int value = valueAtHand();
            if (isSound() && value >= least && value <= most) {
                goOn();
                return value;
            }
            tellFault();
            return 0;
        }

        private void goOn() {
            start = end;
            while (start < tape.length() && tape.at(start) == BLANK) {
                start++;
            }
            end = start;
            while (end < tape.length() && tape.at(end) != BLANK) {
                end++;
            }
        }

        private boolean isAt(String word) {
            if (end - start != word.length()) {
                return false;
            }
            for (int i = 0; i < word.length(); i++) {
                if (tape.at(start + i) != word.charAt(i)) {
                    return false;
                }
            }
            return true;
        }

        /** ABSENT if the word at hand is no number; long ones stay far too much, and don't wrap. */
        private int valueAtHand() {
            if (start >= end) {
                return ABSENT;
            }
            int value = 0;
            for (int i = start; i < end; i++) {
                int digit = tape.at(i) - '0';
                if (digit < 0 || digit > 9) {
                    return ABSENT;
                }
                value = Math.min(value * 10 + digit, FAR_TOO_MUCH);
            }
            return value;
        }
    }

    /** The leaves that owners gave, and those that they withdrew. */
    private static final class Leaves {
        private static final int MOST = 12;

        private final int[] firstRows = new int[MOST];
        private final int[] lastRows = new int[MOST];
        private final int[] firstDays = new int[MOST];
        private final int[] lastDays = new int[MOST];
        private final int[] barred = new int[MOST];
        private final boolean[] withdrawn = new boolean[MOST];
        private int number = 0;

        boolean wereGiven() {
            return number > 0;
        }

        boolean isFull() {
            return number >= MOST;
        }

        boolean has(int leave) {
            return leave >= 0 && leave < number;
        }

        int add(LeaveReader read) {
            firstRows[number] = read.firstRow();
            lastRows[number] = read.lastRow();
            firstDays[number] = read.firstDay();
            lastDays[number] = read.lastDay();
            barred[number] = read.barred();
            number++;
            return number - 1;
        }

        boolean isWithdrawn(int leave) {
            return withdrawn[leave];
        }

        void takeBack(int leave) {
            withdrawn[leave] = true;
        }

        int standing() {
            int standing = 0;
            for (int leave = 0; leave < number; leave++) {
                standing += toInt(!withdrawn[leave]);
            }
            return standing;
        }

        int firstLetting(int walker, int row, int day) {
            for (int leave = 0; leave < number; leave++) {
                if (!withdrawn[leave] && covers(leave, row, day) && (barred[leave] >> walker & 1) == 0) {
                    return leave;
                }
            }
            return ABSENT;
        }

        private boolean covers(int leave, int row, int day) {
            return within(row, firstRows[leave], lastRows[leave])
                && within(day, firstDays[leave], lastDays[leave]);
        }
    }

    /** A row of shorts with a told number of places, or missing. */
    private static final class Sheet {
        private static final int MOST = 64;

        private final short[] places = new short[MOST];
        private int size = ABSENT;

        boolean isMissing() {
            return size == ABSENT;
        }

        void renew(int n) {
            size = n;
            Arrays.fill(places, (short) 0);
        }

        int vanish() {
            int was = size;
            size = ABSENT;
            return was;
        }

        boolean has(int place) {
            return place >= 0 && place < size;
        }

        /** A run of no places may stand behind the last one; there is no run of fewer. */
        boolean hasRun(int place, int length) {
            return place >= 0 && length >= 0 && place <= size - length;
        }

        int at(int place) {
            return places[place];
        }

        int put(int place, int v) {
            int was = places[place];
            places[place] = (short) v;
            return was;
        }

        void take(Sheet source, int place, int at, int length) {
            System.arraycopy(source.places, place, places, at, length);
        }
    }
}
