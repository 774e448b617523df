import java.util.function.IntFunction;
import java.util.function.Supplier;
import java.util.function.ToIntFunction;

/**
 * Promises 2 to 33, by what each refuses: the case just inside each boundary, the case just outside
 * it, the one that is told of several, and that a refused call leaves all as it was.
 */
final class RefusalsTest {
    public static void main(String[] args) {
        field();
        fieldLeavesTheRest();
        fieldWalkedAgain();
        sort();
        isOf();
        walk();
        walkWithoutLeave();
        walkFull();
        find();
        findFull();
        told();
        of();
        count();
        led();
        pair();
        eye();
        corrected();
        worth();
        heap();
        spade();
        rule();
        plough();
        profile();
        mixed();
        feed();
        trim();
        leave();
        leaveFull();
        withdraw();
        lets();
        days();
        sheet();
        mark();
        copy();
        copyMissing();
        copyPlaces();
        lose();
        many();
        Check.end();
    }

    private static void inside(String what, int want, ToIntFunction<SherdField> call) {
        Check.due("inside: " + what, want, call.applyAsInt(Rich.field()));
    }

    private static void refused(String what, int want, ToIntFunction<SherdField> call) {
        Check.refused(what, want, Rich::field, call);
    }

    /** Refused just below least, just above most, and as far off as can be. */
    private static void outside(String what, int want, int least, int most,
            IntFunction<ToIntFunction<SherdField>> call) {
        outside(what, want, least, most, Rich::field, call);
    }

    private static void outside(String what, int want, int least, int most, Supplier<SherdField> make,
            IntFunction<ToIntFunction<SherdField>> call) {
        for (int wrong : new int[] {least - 1, most + 1, Integer.MIN_VALUE, Integer.MAX_VALUE}) {
            Check.refused(what + " " + wrong, want, make, call.apply(wrong));
        }
    }

    // ---- promises 2 to 11

    private static void field() {
        inside("field", 4, x -> x.field(2, 2));
        inside("field", 16, x -> x.field(2, 8));
        inside("field", 16, x -> x.field(8, 2));
        inside("field", 64, x -> x.field(8, 8));
        outside("field wide", Check.BAD, 2, 8, n -> x -> x.field(n, 2));
        outside("field wide", Check.BAD, 2, 8, n -> x -> x.field(n, 8));
        outside("field high", Check.BAD, 2, 8, n -> x -> x.field(2, n));
        outside("field high", Check.BAD, 2, 8, n -> x -> x.field(8, n));
        outside("field both", Check.BAD, 2, 8, n -> x -> x.field(n, n));
        refused("field of -4 by -3", Check.BAD, x -> x.field(-4, -3));
        refused("field of none", Check.BAD, x -> x.field(0, 0));
    }

    private static void fieldLeavesTheRest() {
        Check.same("a new field", State.of(Rich::unwalked), State.of(() -> {
            SherdField x = Rich.field();
            Check.due("field", 12, x.field(4, 3));
            return x;
        }));
        Check.same("a new field behind 60 walks", State.of(Rich::unwalked), State.of(() -> {
            SherdField x = Rich.fullOfWalks();
            Check.due("field", 12, x.field(4, 3));
            return x;
        }));
        Check.same("a new field behind 200 finds", State.of(Rich::unwalked), State.of(() -> {
            SherdField x = Rich.fullOfFinds();
            Check.due("field", 12, x.field(4, 3));
            return x;
        }));
    }

    /** What was found in the old field comes to no walk of the new one. */
    private static void fieldWalkedAgain() {
        Check.same("a new field walked again", State.of(Rich::field), State.of(() -> {
            SherdField x = Rich.fullOfFinds();
            x.field(4, 3);
            Rich.walkAll(x);
            return x;
        }));
        Check.same("a smaller field walked again", State.of(Rich::field), State.of(() -> {
            SherdField x = Rich.unwalked();
            x.field(8, 8);
            for (int i = 0; i < 60; i++) {
                x.walk(i % 4, i % 3);
                x.find(i, 8 * (i % 3) + i % 8, i % 4, 99);
                x.spade(i, 0);
            }
            x.field(4, 3);
            Rich.walkAll(x);
            return x;
        }));
    }

    private static void sort() {
        int[] was = {0, 1, 3, 3};
        for (int kind = 0; kind < 4; kind++) {
            int k = kind;
            inside("sort, the first", was[k], x -> x.sort(k, 0));
            inside("sort, the last", was[k], x -> x.sort(k, 3));
        }
        outside("sort kind", Check.BAD, 0, 3, n -> x -> x.sort(n, 0));
        outside("sort sort", Check.BAD, 0, 3, n -> x -> x.sort(0, n));
        outside("sort both", Check.BAD, 0, 3, n -> x -> x.sort(n, n));
    }

    private static void isOf() {
        inside("isOf", 1, x -> x.isOf(0, 0));
        inside("isOf", 0, x -> x.isOf(0, 3));
        inside("isOf", 1, x -> x.isOf(3, 0));
        inside("isOf", 1, x -> x.isOf(3, 3));
        outside("isOf kind", Check.BAD, 0, 3, n -> x -> x.isOf(n, 0));
        outside("isOf sort", Check.BAD, 0, 3, n -> x -> x.isOf(0, n));
        outside("isOf both", Check.BAD, 0, 3, n -> x -> x.isOf(n, n));
    }

    private static void walk() {
        inside("walk of the first walker", 3, x -> x.walk(0, 0));
        inside("walk of the last walker let", 3, x -> x.walk(3, 2));
        outside("walk walker", Check.BAD, 0, 4, n -> x -> x.walk(n, 0));
        outside("walk row", Check.BAD, 0, 2, n -> x -> x.walk(0, n));
        outside("walk both", Check.BAD, 0, 2, n -> x -> x.walk(5, n));
        refused("walk of one whom no leave lets", Check.NO, x -> x.walk(4, 0));
        refused("walk, BAD ahead of NO", Check.BAD, x -> x.walk(4, 3));
    }

    private static void walkWithoutLeave() {
        Supplier<SherdField> onTheLastDay = () -> late(100);
        Supplier<SherdField> aDayTooLate = () -> late(101);
        Check.due("walk on the last day", 3, onTheLastDay.get().walk(0, 0));
        Check.refused("walk a day too late", Check.NO, aDayTooLate, x -> x.walk(0, 0));
        Check.refused("walk a day too late, BAD ahead of NO", Check.BAD, aDayTooLate, x -> x.walk(5, 0));
        Supplier<SherdField> allWithdrawn = () -> {
            SherdField x = Rich.field();
            x.withdraw(0);
            return x;
        };
        Check.refused("walk with all leaves withdrawn", Check.NO, allWithdrawn, x -> x.walk(0, 0));
        Check.due("walk of the last walker, where never was a leave", 0, new SherdField().walk(4, 3));
        Check.refused("walk of row 4 of 4", Check.BAD, SherdField::new, x -> x.walk(4, 4));
    }

    private static SherdField late(int day) {
        SherdField x = Rich.field();
        for (int today = x.many(5); today < day; today = x.many(5)) {
            x.days(Math.min(60, day - today));
        }
        return x;
    }

    private static void walkFull() {
        Supplier<SherdField> oneMore = () -> {
            SherdField x = Rich.field();
            for (int walk = 3; walk < 59; walk++) {
                x.walk(walk % 4, walk % 2);
            }
            return x;
        };
        Check.due("the 60th walk", 59, oneMore.get().walk(0, 0));
        Check.refused("the 61st walk", Check.FULL, Rich::fullOfWalks, x -> x.walk(0, 0));
        Check.refused("walk, NO ahead of FULL", Check.NO, Rich::fullOfWalks, x -> x.walk(4, 0));
        Check.refused("walk, BAD ahead of FULL", Check.BAD, Rich::fullOfWalks, x -> x.walk(0, 3));
        Check.refused("walk, BAD ahead of NO and FULL", Check.BAD, Rich::fullOfWalks, x -> x.walk(4, 3));
    }

    private static void find() {
        inside("find, the first walk and pace", 6, x -> x.find(0, 0, 0, 1));
        inside("find, the last pace of its row", 6, x -> x.find(0, 3, 3, 99));
        inside("find, the last walk, its row's first pace", 6, x -> x.find(2, 4, 3, 99));
        inside("find, the last walk, its row's last pace", 6, x -> x.find(2, 7, 0, 1));
        outside("find walk", Check.BAD, 0, 2, n -> x -> x.find(n, 0, 0, 1));
        outside("find walk", Check.BAD, 0, 2, n -> x -> x.find(n, 4, 0, 1));
        outside("find walk, at a gap", Check.BAD, 0, 2, n -> x -> x.find(n, 8, 0, 1));
        outside("find pace of row 0", Check.BAD, 0, 3, n -> x -> x.find(0, n, 0, 1));
        outside("find pace of row 1", Check.BAD, 4, 7, n -> x -> x.find(2, n, 0, 1));
        refused("find beyond the field", Check.BAD, x -> x.find(2, 12, 0, 1));
        refused("find four paces beyond the field", Check.BAD, x -> x.find(0, 16, 0, 1));
        outside("find kind", Check.BAD, 0, 3, n -> x -> x.find(0, 0, n, 1));
        outside("find n", Check.BAD, 1, 99, n -> x -> x.find(0, 0, 0, n));
        refused("find of -5", Check.BAD, x -> x.find(0, 1, 0, -5));
        Check.refused("find without a walk", Check.BAD, Rich::unwalked, x -> x.find(0, 0, 0, 1));
    }

    private static void findFull() {
        Supplier<SherdField> oneMore = () -> {
            SherdField x = Rich.field();
            for (int find = 6; find < 199; find++) {
                x.find(2, 4 + find % 4, find % 4, 1);
            }
            return x;
        };
        Check.due("the 200th find", 199, oneMore.get().find(0, 0, 0, 1));
        Supplier<SherdField> full = Rich::fullOfFinds;
        Check.refused("the 201st find", Check.FULL, full, x -> x.find(0, 0, 0, 1));
        Check.refused("find, BAD walk ahead of FULL", Check.BAD, full, x -> x.find(3, 0, 0, 1));
        Check.refused("find, BAD pace ahead of FULL", Check.BAD, full, x -> x.find(0, 4, 0, 1));
        Check.refused("find, BAD kind ahead of FULL", Check.BAD, full, x -> x.find(0, 0, 4, 1));
        Check.refused("find, BAD n ahead of FULL", Check.BAD, full, x -> x.find(0, 0, 0, 100));
    }

    private static void told() {
        inside("told, the first", 0, x -> x.told(0, 0));
        inside("told, the first", 0, x -> x.told(0, 4));
        inside("told, the last", 2, x -> x.told(2, 0));
        inside("told, the last", 1, x -> x.told(2, 4));
        outside("told walk", Check.BAD, 0, 2, n -> x -> x.told(n, 0));
        outside("told walk", Check.BAD, 0, 2, n -> x -> x.told(n, 4));
        outside("told what", Check.BAD, 0, 4, n -> x -> x.told(0, n));
        Check.refused("told without a walk", Check.BAD, Rich::unwalked, x -> x.told(0, 0));
        Check.due("told of the 60th", 3, Rich.fullOfWalks().told(59, 0));
        Check.refused("told of the 61st", Check.BAD, Rich::fullOfWalks, x -> x.told(60, 0));
    }

    private static void of() {
        inside("of, the first", 0, x -> x.of(0, 0));
        inside("of, the first", 5, x -> x.of(0, 3));
        inside("of, the last", 1, x -> x.of(5, 0));
        inside("of, the last", 1, x -> x.of(5, 3));
        outside("of find", Check.BAD, 0, 5, n -> x -> x.of(n, 0));
        outside("of find", Check.BAD, 0, 5, n -> x -> x.of(n, 3));
        outside("of what", Check.BAD, 0, 3, n -> x -> x.of(0, n));
        Check.refused("of without a find", Check.BAD, Rich::unwalked, x -> x.of(0, 0));
        Check.due("of the 200th", 7, Rich.fullOfFinds().of(199, 1));
        Check.refused("of the 201st", Check.BAD, Rich::fullOfFinds, x -> x.of(200, 1));
    }

    private static void count() {
        inside("count, the first pace and kind", 0, x -> x.count(0, 0));
        inside("count, the last kind", 5, x -> x.count(1, 3));
        inside("count, the last pace", 0, x -> x.count(11, 3));
        outside("count pace", Check.BAD, 0, 11, n -> x -> x.count(n, 0));
        outside("count kind", Check.BAD, 0, 3, n -> x -> x.count(1, n));
    }

    private static void led() {
        inside("led, the first of two", 1, x -> x.led(1, 0));
        inside("led, the last of two", 5, x -> x.led(1, 1));
        inside("led, not so many", Check.NONE, x -> x.led(1, 2));
        inside("led, not so many", Check.NONE, x -> x.led(1, Integer.MAX_VALUE));
        inside("led, the first pace", Check.NONE, x -> x.led(0, 0));
        inside("led, the last pace", Check.NONE, x -> x.led(11, 0));
        outside("led pace", Check.BAD, 0, 11, n -> x -> x.led(n, 0));
        refused("led i", Check.BAD, x -> x.led(1, -1));
        refused("led i", Check.BAD, x -> x.led(1, Integer.MIN_VALUE));
        refused("led i of a pace without finds", Check.BAD, x -> x.led(11, -1));
    }

    // ---- promises 12 to 19

    private static void pair() {
        inside("pairs", 1, x -> x.pair(0, 1, 0));
        inside("seen by the second", 5, x -> x.pair(0, 1, 2));
        inside("pairs, the last walkers", 0, x -> x.pair(3, 4, 0));
        inside("pairs, the last walkers", 0, x -> x.pair(4, 3, 2));
        outside("pair walker", Check.BAD, 0, 4, n -> x -> x.pair(n, 0, 0));
        outside("pair other", Check.BAD, 0, 4, n -> x -> x.pair(0, n, 0));
        outside("pair both", Check.BAD, 0, 4, n -> x -> x.pair(n, n, 0));
        outside("pair what", Check.BAD, 0, 2, n -> x -> x.pair(0, 1, n));
        for (int walker = 0; walker < 5; walker++) {
            for (int what = 0; what < 3; what++) {
                int v = walker;
                int w = what;
                refused("pair of one", Check.BAD, x -> x.pair(v, v, w));
            }
        }
    }

    private static void eye() {
        inside("eye of the first", 100, x -> x.eye(0));
        inside("eye of the last", 100, x -> x.eye(4));
        outside("eye", Check.BAD, 0, 4, n -> x -> x.eye(n));
    }

    private static void corrected() {
        inside("corrected, the first", 0, x -> x.corrected(0, 0));
        inside("corrected, the last kind", 5, x -> x.corrected(1, 3));
        inside("corrected, the last pace", 0, x -> x.corrected(11, 3));
        outside("corrected pace", Check.BAD, 0, 11, n -> x -> x.corrected(n, 0));
        outside("corrected kind", Check.BAD, 0, 3, n -> x -> x.corrected(1, n));
    }

    private static void worth() {
        inside("worth, the first pace", 0, x -> x.worth(0, 0));
        inside("sum, the first pace", 36, x -> x.worth(0, 1));
        inside("worth, the last pace", 0, x -> x.worth(11, 0));
        inside("sum, the last pace", 0, x -> x.worth(11, 1));
        outside("worth pace", Check.BAD, 0, 11, n -> x -> x.worth(n, 0));
        outside("sum pace", Check.BAD, 0, 11, n -> x -> x.worth(n, 1));
        outside("worth what", Check.BAD, 0, 1, n -> x -> x.worth(0, n));
    }

    private static void heap() {
        // Two are spared, so one shuffle can't tell against a heap.
        inside("heap, one shuffle, the first pace", 1, x -> x.heap(0, 1));
        inside("heap, one shuffle, the last pace", 1, x -> x.heap(11, 1));
        inside("heap, 99 shuffles, the first pace", 0, x -> x.heap(0, 99));
        inside("heap, 99 shuffles, the last pace", 0, x -> x.heap(11, 99));
        outside("heap pace", Check.BAD, 0, 11, n -> x -> x.heap(n, 1));
        outside("heap shuffles", Check.BAD, 1, 99, n -> x -> x.heap(0, n));
        outside("heap both", Check.BAD, 0, 99, n -> x -> x.heap(n, n));
        Check.same("behind a heap that is told", State.of(Rich::field), State.of(() -> {
            SherdField x = Rich.field();
            x.heap(0, 99);
            return x;
        }));
    }

    private static void spade() {
        inside("spade, the first pace", 1, x -> x.spade(0, 0));
        inside("spade, the last pace", 1, x -> x.spade(11, 1));
        inside("spade where it found nothing", 0, x -> x.spade(7, 0));
        inside("spade where it found nothing", 0, x -> x.spade(7, 1));
        outside("spade pace", Check.BAD, 0, 11, n -> x -> x.spade(n, 0));
        outside("spade found", Check.BAD, 0, 1, n -> x -> x.spade(1, n));
        outside("spade found, where it found nothing", Check.BAD, 0, 1, n -> x -> x.spade(7, n));
    }

    private static void rule() {
        inside("seed, the least", 77, x -> x.rule(0, Integer.MIN_VALUE));
        inside("seed, the most", 77, x -> x.rule(0, Integer.MAX_VALUE));
        inside("spare, the least", 2, x -> x.rule(1, 0));
        inside("spare, the most", 2, x -> x.rule(1, 9));
        outside("rule which", Check.BAD, 0, 1, n -> x -> x.rule(n, 5));
        outside("spare", Check.BAD, 0, 9, n -> x -> x.rule(1, n));
    }

    // ---- promises 20 to 22

    private static void plough() {
        inside("plough, none, the first pace", 100, x -> x.plough(0, 0));
        inside("plough, none, the last pace", 0, x -> x.plough(11, 0));
        inside("plough, one", 1716, x -> x.plough(0, 1));
        outside("plough pace", Check.BAD, 0, 11, n -> x -> x.plough(n, 0));
        outside("plough n", Check.BAD, 0, 50, n -> x -> x.plough(0, n));
        Supplier<SherdField> missing = () -> Rich.withoutSheet(0);
        Check.refused("plough", Check.NOTHING, missing, x -> x.plough(0, 0));
        Check.refused("plough", Check.NOTHING, missing, x -> x.plough(11, 50));
        outside("plough, BAD pace ahead of NOTHING", Check.BAD, 0, 11, missing, n -> x -> x.plough(n, 0));
        outside("plough, BAD n ahead of NOTHING", Check.BAD, 0, 50, missing, n -> x -> x.plough(0, n));
        Check.due("plough with the other sheet missing", 100, Rich.withoutSheet(1).plough(0, 0));
        Check.same("behind a plough that is told", State.of(Rich::field), State.of(() -> {
            SherdField x = Rich.field();
            x.plough(0, 50);
            return x;
        }));
    }

    private static void profile() {
        inside("profile, the least", 10, x -> x.profile(0, 0, 0));
        inside("profile, the most", 30, x -> x.profile(2, 3, 100));
        outside("profile period", Check.BAD, 0, 2, n -> x -> x.profile(n, 0, 5));
        outside("profile kind", Check.BAD, 0, 3, n -> x -> x.profile(0, n, 5));
        outside("profile kind of the last period", Check.BAD, 0, 3, n -> x -> x.profile(2, n, 5));
        outside("profile v", Check.BAD, 0, 100, n -> x -> x.profile(0, 0, n));
    }

    private static void mixed() {
        for (SherdField x : new SherdField[] {Rich.field(), Rich.unwalked()}) {
            Check.due("mixed, together", 20, x.mixed(0) + x.mixed(1) + x.mixed(2));
        }
        outside("mixed", Check.BAD, 0, 2, n -> x -> x.mixed(n));
    }

    // ---- promises 23 to 28

    private static void feed() {
        Check.due("feed up to 60", 60, Rich.withBytes(48).feed(-1, 0, 1));
        Check.refused("feed up to 61", Check.FULL, () -> Rich.withBytes(49), x -> x.feed(-1, 0, 1));
        Check.refused("feed up to 71", Check.FULL, () -> Rich.withBytes(59), x -> x.feed(-1, 0, 1));
        Check.refused("feed up to 72", Check.FULL, () -> Rich.withBytes(60), x -> x.feed(-1, 0, 1));
    }

    private static void trim() {
        int length = Rich.TEXT.length();
        inside("trim to none", 0, x -> x.trim(0));
        inside("trim to all", length, x -> x.trim(length));
        outside("trim", Check.BAD, 0, length, n -> x -> x.trim(n));
        Check.due("trim to 60", 60, Rich.withBytes(60).trim(60));
        Check.refused("trim to 61", Check.BAD, () -> Rich.withBytes(60), x -> x.trim(61));
        Check.due("trim of an empty tape", 0, new SherdField().trim(0));
        Check.refused("trim of an empty tape", Check.BAD, SherdField::new, x -> x.trim(1));
    }

    private static Supplier<SherdField> withTape(Supplier<SherdField> make, String text) {
        return () -> {
            SherdField x = make.get();
            Check.lay(x, text);
            return x;
        };
    }

    /** A leave that is refused has used the tape up, and left all else as it was. */
    private static void leaveRefused(int want, Supplier<SherdField> make, String text) {
        Check.due("leave '" + text + "'", want, withTape(make, text).get().leave());
        Check.same("behind '" + text + "'", State.of(withTape(make, "")), State.of(() -> {
            SherdField x = withTape(make, text).get();
            x.leave();
            return x;
        }));
    }

    private static void leave() {
        inside("leave", 2, x -> x.leave());
        leaveRefused(-100, Rich::field, "");
        leaveRefused(-105, Rich::field, "rows 8 to 8 days 1 to 3 but who 1 or 3");
        leaveRefused(-110, Rich::field, "rows 5 to 4 days 1 to 3 but who 1 or 3");
        leaveRefused(-117, Rich::field, "rows 5 to 6 days 401 to 401 but who 1 or 3");
        leaveRefused(-122, Rich::field, "rows 5 to 6 days 1 to 0 but who 1 or 3");
        leaveRefused(-132, Rich::field, "rows 5 to 6 days 1 to 3 but who 5 or 6");
        leaveRefused(-137, Rich::field, "rows 5 to 6 days 1 to 3 but who 1 or 1");
        leaveRefused(-141, Rich::field, "rows 5 to 6 days 1 to 3 but who 1 or 3 or");
        leaveRefused(-160, Rich::field, "rows 5 to" + " ".repeat(51));
    }

    private static void leaveFull() {
        Supplier<SherdField> oneMore = () -> {
            SherdField x = Rich.field();
            for (int leave = 2; leave < 11; leave++) {
                Check.leave(x, "rows 7 to 7");
            }
            return x;
        };
        Check.due("the 12th leave", 11, Check.leave(oneMore.get(), Rich.TEXT));
        leaveRefused(Check.FULL, Rich::fullOfLeaves, Rich.TEXT);
        leaveRefused(-105, Rich::fullOfLeaves, "rows 8 to 8");
        Check.due("the 12th leave is withdrawn", 1, Rich.fullOfLeaves().withdraw(11));
        Check.refused("a 13th leave is withdrawn", Check.BAD, Rich::fullOfLeaves, x -> x.withdraw(12));
    }

    private static void withdraw() {
        inside("withdraw", 1, x -> x.withdraw(0));
        outside("withdraw", Check.BAD, 0, 1, n -> x -> x.withdraw(n));
        refused("withdraw a withdrawn one", Check.NO, x -> x.withdraw(1));
        Check.refused("withdraw without leaves", Check.BAD, SherdField::new, x -> x.withdraw(0));
    }

    private static void lets() {
        inside("lets, the first", 0, x -> x.lets(0, 0, 0));
        inside("lets, the last", Check.NONE, x -> x.lets(4, 7, 400));
        outside("lets walker", Check.BAD, 0, 4, n -> x -> x.lets(n, 0, 0));
        outside("lets row", Check.BAD, 0, 7, n -> x -> x.lets(0, n, 0));
        outside("lets day", Check.BAD, 0, 400, n -> x -> x.lets(0, 0, n));
        Check.due("lets, where never was a leave", Check.NONE, new SherdField().lets(0, 0, 0));
    }

    private static void days() {
        inside("days, the least", 4, x -> x.days(1));
        inside("days, the most", 63, x -> x.days(60));
        outside("days", Check.BAD, 1, 60, n -> x -> x.days(n));
        Check.due("days up to 400", 400, late(340).days(60));
        Check.refused("days up to 401", Check.BAD, () -> late(341), x -> x.days(60));
        Check.due("a day up to 400", 400, late(399).days(1));
        Check.refused("a day up to 401", Check.BAD, () -> late(400), x -> x.days(1));
        outside("days on the last one", Check.BAD, 1, 60, () -> late(400), n -> x -> x.days(n));
    }

    // ---- promises 29 to 33

    private static void sheet() {
        for (int s = 0; s < 2; s++) {
            int t = s;
            inside("sheet of none", 0, x -> x.sheet(t, 0));
            inside("sheet of 64", 64, x -> x.sheet(t, 64));
            refused("sheet of 65", Check.BAD, x -> x.sheet(t, 65));
            refused("sheet of far too many", Check.BAD, x -> x.sheet(t, Integer.MAX_VALUE));
            refused("sheet of -1", Check.SIZE, x -> x.sheet(t, -1));
            refused("sheet of far too few", Check.SIZE, x -> x.sheet(t, Integer.MIN_VALUE));
            Supplier<SherdField> missing = () -> Rich.withoutSheet(t);
            Check.refused("a missing sheet of 65", Check.BAD, missing, x -> x.sheet(t, 65));
            Check.refused("a missing sheet of -1", Check.SIZE, missing, x -> x.sheet(t, -1));
        }
        outside("sheet", Check.BAD, 0, 1, n -> x -> x.sheet(n, 0));
        outside("sheet, BAD ahead of SIZE", Check.BAD, 0, 1, n -> x -> x.sheet(n, -1));
    }

    private static void mark() {
        inside("mark the first", 100, x -> x.mark(0, 0, 1));
        inside("mark the last", -5, x -> x.mark(0, 5, 1));
        inside("mark the last of the other", 9, x -> x.mark(1, 2, 1));
        outside("mark place", Check.INDEX, 0, 5, n -> x -> x.mark(0, n, 1));
        outside("mark place", Check.INDEX, 0, 2, n -> x -> x.mark(1, n, 1));
        outside("mark sheet", Check.BAD, 0, 1, n -> x -> x.mark(n, 0, 1));
        outside("mark, BAD ahead of INDEX", Check.BAD, 0, 1, n -> x -> x.mark(n, -1, 1));
        for (int s = 0; s < 2; s++) {
            int t = s;
            Supplier<SherdField> missing = () -> Rich.withoutSheet(t);
            Check.refused("mark a missing one", Check.NOTHING, missing, x -> x.mark(t, 0, 1));
            outside("mark, NOTHING ahead of INDEX", Check.NOTHING, 0, 63, missing, n -> x -> x.mark(t, n, 1));
        }
        SherdField y = new SherdField();
        y.sheet(0, 64);
        Check.due("mark the 64th", 0, y.mark(0, 63, 1));
        Check.due("mark the 65th", Check.INDEX, y.mark(0, 64, 1));
        y.sheet(0, 0);
        Check.due("mark the first of none", Check.INDEX, y.mark(0, 0, 1));
    }

    private static void copy() {
        inside("copy from the first to the last sheet", 1, x -> x.copy(0, 0, 1, 0, 1));
        inside("copy from the last to the first sheet", 1, x -> x.copy(1, 0, 0, 0, 1));
        outside("copy from", Check.BAD, 0, 1, n -> x -> x.copy(n, 0, 0, 0, 1));
        outside("copy to", Check.BAD, 0, 1, n -> x -> x.copy(0, 0, n, 0, 1));
        outside("copy from and to", Check.BAD, 0, 1, n -> x -> x.copy(n, 0, n, 0, 1));
        outside("copy from, BAD ahead of INDEX", Check.BAD, 0, 1, n -> x -> x.copy(n, 0, 0, -1, 1));
        outside("copy to, BAD ahead of INDEX", Check.BAD, 0, 1, n -> x -> x.copy(0, -1, n, 0, 1));
        outside("copy to, BAD ahead of a wrong many", Check.BAD, 0, 1, n -> x -> x.copy(0, 0, n, 0, -1));
    }

    private static void copyMissing() {
        for (int s = 0; s < 2; s++) {
            int gone = s;
            int here = 1 - s;
            Supplier<SherdField> missing = () -> Rich.withoutSheet(gone);
            Check.refused("copy from a missing one", Check.NOTHING, missing, x -> x.copy(gone, 0, here, 0, 1));
            Check.refused("copy to a missing one", Check.NOTHING, missing, x -> x.copy(here, 0, gone, 0, 1));
            Check.refused("copy within a missing one", Check.NOTHING, missing, x -> x.copy(gone, 0, gone, 0, 1));
            Check.refused("copy none to a missing one", Check.NOTHING, missing, x -> x.copy(here, 0, gone, 0, 0));
            Check.refused("copy, NOTHING ahead of INDEX", Check.NOTHING, missing, x -> x.copy(gone, -1, here, 0, 1));
            Check.refused("copy, NOTHING ahead of INDEX", Check.NOTHING, missing, x -> x.copy(here, 64, gone, 0, 1));
            Check.refused("copy, NOTHING ahead of INDEX", Check.NOTHING, missing, x -> x.copy(here, 0, gone, 0, -1));
            Check.refused("copy, BAD ahead of NOTHING", Check.BAD, missing, x -> x.copy(gone, 0, 2, 0, 1));
            Check.refused("copy, BAD ahead of NOTHING", Check.BAD, missing, x -> x.copy(-1, 0, gone, 0, 1));
            Check.due("copy within the other", 1, missing.get().copy(here, 0, here, 1, 1));
        }
    }

    private static void copyPlaces() {
        inside("copy the last place to the last place", 1, x -> x.copy(0, 5, 1, 2, 1));
        inside("copy as many as the other has", 3, x -> x.copy(0, 3, 1, 0, 3));
        inside("copy all of a sheet to itself", 6, x -> x.copy(0, 0, 0, 0, 6));
        inside("copy none from behind the last place", 0, x -> x.copy(0, 6, 1, 3, 0));
        outside("copy place", Check.INDEX, 0, 5, n -> x -> x.copy(0, n, 1, 0, 1));
        outside("copy place of three", Check.INDEX, 0, 3, n -> x -> x.copy(0, n, 1, 0, 3));
        outside("copy at", Check.INDEX, 0, 2, n -> x -> x.copy(0, 0, 1, n, 1));
        outside("copy at of two", Check.INDEX, 0, 1, n -> x -> x.copy(0, 0, 1, n, 2));
        outside("copy many", Check.INDEX, 0, 3, n -> x -> x.copy(0, 0, 1, 0, n));
        outside("copy many within one", Check.INDEX, 0, 6, n -> x -> x.copy(0, 0, 0, 0, n));
        outside("copy many at the end", Check.INDEX, 0, 1, n -> x -> x.copy(0, 5, 1, 0, n));
        outside("copy none", Check.INDEX, 0, 6, n -> x -> x.copy(0, n, 1, 0, 0));
        outside("copy none", Check.INDEX, 0, 3, n -> x -> x.copy(0, 0, 1, n, 0));
        refused("copy wraps", Check.INDEX, x -> x.copy(0, Integer.MAX_VALUE, 1, 0, 2));
        refused("copy wraps", Check.INDEX, x -> x.copy(0, 1, 1, 1, Integer.MAX_VALUE));
        refused("copy wraps", Check.INDEX, x -> x.copy(0, -1, 1, 0, Integer.MIN_VALUE));
    }

    private static void lose() {
        inside("lose the first", 6, x -> x.lose(0));
        inside("lose the last", 3, x -> x.lose(1));
        outside("lose", Check.BAD, 0, 1, n -> x -> x.lose(n));
        for (int s = 0; s < 2; s++) {
            int t = s;
            Check.refused("lose a missing one", Check.NOTHING, () -> Rich.withoutSheet(t), x -> x.lose(t));
            outside("lose, BAD ahead of NOTHING", Check.BAD, 0, 1, () -> Rich.withoutSheet(t), n -> x -> x.lose(n));
        }
    }

    private static void many() {
        int[] due = {12, 3, 6, 1, 1, 3, Rich.TEXT.length(), 1};
        for (int what = 0; what < 8; what++) {
            int w = what;
            inside("many " + w, due[w], x -> x.many(w));
        }
        outside("many", Check.BAD, 0, 7, n -> x -> x.many(n));
    }
}
