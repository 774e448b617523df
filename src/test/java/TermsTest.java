/**
 * The terms ahead of the promises, parts 1 to 4 and SHEETS: each sentence that names a boundary, with
 * the case on either side of it. LeaveTermsTest has the rest of part 5.
 */
final class TermsTest {
    public static void main(String[] args) {
        atFirst();
        pacesRowByRow();
        sorts();
        walksAndFindsAtMost();
        theWalkWithTheGreatestSum();
        sumOfAllKindsInAllTheRow();
        gapsAreRowsWithoutAWalk();
        unlikeWalkersOfOneRow();
        seenWithoutCoarseOnes();
        eyeByTheBetterOne();
        eyeIsCut();
        eyeWithoutPairs();
        correctedIsCut();
        correctedIs9999AtMost();
        correctedByAnEyeOf0();
        worths();
        ringsEndWithTheField();
        theFirstOfTheGreatest();
        aboveAndNotAlike();
        spareAtMost();
        shufflesGoOn();
        seedsThatWrap();
        walkedRowsAlone();
        ploughParts();
        ploughAtOnce();
        ploughTold();
        mixedLeast();
        mixedOfSeveral();
        sheets();
        Check.end();
    }

    /** A new field of so many paces, in which one walker walks all rows, the walk by the row. */
    private static SherdField walked(int wide, int high) {
        SherdField x = new SherdField();
        x.field(wide, high);
        for (int row = 0; row < high; row++) {
            x.walk(0, row);
        }
        return x;
    }

    /** Puts n of a kind at a pace, n being as great as a run can have. */
    private static void findMany(SherdField x, int walk, int pace, int kind, int n) {
        for (int left = n; left > 0; left -= 99) {
            x.find(walk, pace, kind, Math.min(left, 99));
        }
    }

    // ---- part 1

    /** "5 by 4 at first", "KIND k is of SORT k at first", "TODAY is 0 at first" and their like. */
    private static void atFirst() {
        SherdField x = new SherdField();
        int[] many = {20, 0, 0, 4, 0, 0, 0, 0};
        for (int what = 0; what < 8; what++) {
            Check.due("many at first", many[what], x.many(what));
        }
        Check.due("the last pace", 0, x.count(19, 0));
        Check.due("beyond it", Check.BAD, x.count(20, 0));
        for (int kind = 0; kind < 4; kind++) {
            Check.due("sort at first", kind, x.sort(kind, kind));
            for (int period = 0; period < 3; period++) {
                Check.due("profile at first", 0, x.profile(period, kind, 0));
            }
        }
        Check.due("seed at first", 1, x.rule(0, 1));
        Check.due("spare at first", 0, x.rule(1, 0));
        Check.due("sheet 0 at first", Check.NOTHING, x.mark(0, 0, 0));
        Check.due("sheet 1 at first", Check.NOTHING, x.mark(1, 0, 0));
        Check.due("no leave at first", Check.BAD, x.withdraw(0));
        Check.due("no walk at first", Check.BAD, x.told(0, 0));
        Check.due("no find at first", Check.BAD, x.of(0, 0));
        Check.due("the last row", 0, x.walk(0, 3));
        Check.due("beyond it", Check.BAD, x.walk(0, 4));
        Check.due("the day", 0, x.told(0, 2));
        Check.due("the last row's first pace", 0, x.find(0, 15, 0, 1));
        Check.due("the one ahead of it", Check.BAD, x.find(0, 14, 0, 1));
        Check.due("the first leave", 0, Check.leave(x, "rows 0 to 0"));
    }

    /** "THE FIELD is WIDE by HIGH PACES (2 .. 8 each ..), numbered row by row." */
    private static void pacesRowByRow() {
        for (int wide = 2; wide <= 8; wide++) {
            for (int high = 2; high <= 8; high++) {
                SherdField x = walked(wide, high);
                Check.due("paces", wide * high, x.many(0));
                Check.due("beyond the last row", Check.BAD, x.walk(0, high));
                for (int row = 0; row < high; row++) {
                    Check.due("ahead of the row", Check.BAD, x.find(row, row * wide - 1, 0, 1));
                    Check.due("the row's first", 2 * row, x.find(row, row * wide, 0, 1));
                    Check.due("the row's last", 2 * row + 1, x.find(row, row * wide + wide - 1, 0, 1));
                    Check.due("behind the row", Check.BAD, x.find(row, row * wide + wide, 0, 1));
                }
                Check.due("the last pace", 1, x.count(wide * high - 1, 0));
                Check.due("beyond it", Check.BAD, x.count(wide * high, 0));
            }
        }
    }

    /** "all are SHERDS; PAINTED ones are FINE, too" */
    private static void sorts() {
        SherdField x = new SherdField();
        for (int kind = 0; kind < 4; kind++) {
            for (int sort = 0; sort < 4; sort++) {
                x.sort(kind, sort);
                Check.due("all are sherds", 1, x.isOf(kind, 0));
                Check.due("coarse", sort == 1 ? 1 : 0, x.isOf(kind, 1));
                Check.due("fine, and painted, too", sort >= 2 ? 1 : 0, x.isOf(kind, 2));
                Check.due("painted, fine ones are not", sort == 3 ? 1 : 0, x.isOf(kind, 3));
            }
        }
    }

    /** "WALKS, 60 at most", "FINDS, 200 at most": a new FIELD has room for as many again. */
    private static void walksAndFindsAtMost() {
        SherdField x = new SherdField();
        for (int i = 0; i < 60; i++) {
            Check.due("walk", i, x.walk(0, i % 4));
        }
        Check.due("walk 60", Check.FULL, x.walk(0, 0));
        for (int i = 0; i < 200; i++) {
            Check.due("find", i, x.find(59, 15, 0, 1));
        }
        Check.due("find 200", Check.FULL, x.find(59, 15, 0, 1));
        Check.due("its sum", 200, x.told(59, 3));
        x.field(5, 4);
        Check.due("walk in a new field", 0, x.walk(0, 0));
        Check.due("find in a new field", 0, x.find(0, 0, 0, 1));
    }

    /** "of the WALKS of its row that with the greatest sum of FINDS .., of several the first" */
    private static void theWalkWithTheGreatestSum() {
        SherdField x = new SherdField();
        x.walk(0, 0);
        x.walk(1, 0);
        x.walk(2, 0);
        tells(x, 0, "none has finds");
        x.find(2, 2, 0, 1);
        tells(x, 2, "one has one");
        x.find(1, 1, 0, 1);
        tells(x, 1, "of like ones the first");
        x.find(2, 2, 0, 1);
        tells(x, 2, "one more");
        x.find(0, 0, 0, 1);
        tells(x, 2, "still one more");
        x.find(0, 0, 0, 1);
        tells(x, 0, "of like ones the first");
        x.find(1, 1, 0, 2);
        tells(x, 1, "one more");
    }

    private static void tells(SherdField x, int walk, String why) {
        for (int other = 0; other < 3; other++) {
            Check.due("tells, " + why, other == walk ? 1 : 0, x.told(other, 4));
            int due = other == walk ? x.told(walk, 3) : 0;
            Check.due("count, " + why, due, x.count(other, 0));
            Check.due("led, " + why, due > 0 ? 1 : 0, x.led(other, 0) == Check.NONE ? 0 : 1);
        }
    }

    /** "of all KINDS, in all the row": and not what it has at the PACE or of the KIND. */
    private static void sumOfAllKindsInAllTheRow() {
        SherdField x = new SherdField();
        x.walk(0, 1);
        x.walk(1, 1);
        x.find(0, 5, 0, 9);
        x.find(1, 5, 0, 7);
        x.find(1, 6, 1, 1);
        x.find(1, 9, 3, 1);
        Check.due("like sums", 9, x.count(5, 0));
        x.find(1, 8, 2, 1);
        Check.due("the sum of all tells", 7, x.count(5, 0));
        x.walk(0, 2);
        x.find(2, 10, 0, 99);
        Check.due("another row's walk does not", 7, x.count(5, 0));
        Check.due("it tells its own", 99, x.count(10, 0));
    }

    /** "0 without a WALK. A row without a WALK is a GAP." */
    private static void gapsAreRowsWithoutAWalk() {
        SherdField x = new SherdField();
        x.field(2, 3);
        int[] rows = {2, 0, 1};
        int[] firsts = {0, 1, Check.NONE};
        Check.due("gap of all", 0, x.gap());
        Check.due("gaps of all", 3, x.many(3));
        for (int i = 0; i < 3; i++) {
            Check.due("count of a gap", 0, x.count(2 * rows[i], 0));
            x.walk(0, rows[i]);
            Check.due("a walk without finds counts nothing", 0, x.count(2 * rows[i], 0));
            Check.due("but is a walk", firsts[i], x.gap());
            Check.due("but is a walk", 2 - i, x.many(3));
            x.walk(1, rows[i]);
            Check.due("a second one changes no gap", 2 - i, x.many(3));
        }
    }

    // ---- part 2

    /** "Two WALKS of one row by unlike WALKERS are a PAIR." */
    private static void unlikeWalkersOfOneRow() {
        SherdField x = new SherdField();
        x.walk(0, 0);
        x.walk(0, 0);
        x.find(0, 0, 0, 9);
        Check.due("one walker twice", 100, x.eye(0));
        x.walk(1, 1);
        Check.due("unlike rows", 0, x.pair(0, 1, 0));
        Check.due("unlike rows", 100, x.eye(1));
        x.walk(1, 0);
        Check.due("two pairs", 2, x.pair(0, 1, 0));
        Check.due("two pairs", 2, x.pair(1, 0, 0));
        Check.due("a walk on another day", 9, x.pair(0, 1, 1));
        x.days(60);
        x.walk(1, 0);
        Check.due("is one of a pair, too", 4, x.pair(0, 1, 0));
        Check.due("and seen in each", 18, x.pair(0, 1, 1));
        Check.due("not by others", 0, x.pair(0, 2, 0));
    }

    /** "the FINDS of KINDS that are no COARSE ones, together" */
    private static void seenWithoutCoarseOnes() {
        for (int sort = 0; sort < 4; sort++) {
            SherdField x = new SherdField();
            x.walk(0, 0);
            x.walk(1, 0);
            for (int kind = 0; kind < 4; kind++) {
                x.sort(kind, 1);
                x.find(0, kind, kind, 10 + kind);
            }
            Check.due("all are coarse", 0, x.pair(0, 1, 1));
            int seen = 0;
            for (int kind = 0; kind < 4; kind++) {
                x.sort(kind, sort);
                seen += sort == 1 ? 0 : 10 + kind;
                Check.due("seen of sort " + sort, seen, x.pair(0, 1, 1));
                Check.due("seen of sort " + sort, seen, x.pair(1, 0, 2));
                Check.due("the other saw none", 0, x.pair(0, 1, 2));
            }
        }
    }

    /** "what the better one (with more SEEN; of like ones either) saw" */
    private static void eyeByTheBetterOne() {
        int[] seen = {9, 10, 11};
        int[] eyes = {100, 100, 90};
        int[] others = {90, 100, 100};
        for (int i = 0; i < 3; i++) {
            SherdField x = new SherdField();
            x.walk(0, 0);
            x.walk(1, 0);
            x.find(0, 0, 0, 10);
            x.find(1, 0, 0, seen[i]);
            Check.due("10 beside " + seen[i], eyes[i], x.eye(0));
            Check.due(seen[i] + " beside 10", others[i], x.eye(1));
        }
    }

    private static int eyeOf(int saw, int better) {
        SherdField x = new SherdField();
        x.walk(0, 0);
        x.walk(1, 0);
        findMany(x, 0, 0, 0, saw);
        findMany(x, 1, 0, 0, better);
        return x.eye(0);
    }

    /** "in hundredths", "/ cuts" */
    private static void eyeIsCut() {
        Check.due("1 of 100", 1, eyeOf(1, 100));
        Check.due("1 of 101", 0, eyeOf(1, 101));
        Check.due("99 of 100", 99, eyeOf(99, 100));
        Check.due("199 of 200", 99, eyeOf(199, 200));
        Check.due("2 of 3", 66, eyeOf(2, 3));
        Check.due("none of many", 0, eyeOf(0, 9900));
        Check.due("many of many", 98, eyeOf(9800, 9899));
        Check.due("many of many, and one", 99, eyeOf(9801, 9899));
    }

    /** "100 without PAIRS, or if that is 0" */
    private static void eyeWithoutPairs() {
        SherdField x = new SherdField();
        Check.due("no walk", 100, x.eye(0));
        x.walk(0, 0);
        x.find(0, 0, 1, 5);
        Check.due("no pair", 100, x.eye(0));
        x.walk(1, 0);
        Check.due("none saw anything", 100, x.eye(0));
        Check.due("none saw anything", 100, x.eye(1));
        x.find(0, 0, 0, 1);
        Check.due("one saw one", 100, x.eye(0));
        Check.due("the other none", 0, x.eye(1));
    }

    /** "that times 100 / the EYE of its WALKER, cut": here an EYE of 66. */
    private static void correctedIsCut() {
        SherdField x = new SherdField();
        x.walk(0, 0);
        x.walk(1, 0);
        x.walk(0, 1);
        x.find(0, 0, 0, 2);
        x.find(1, 0, 0, 3);
        x.find(2, 5, 0, 1);
        x.find(2, 6, 0, 2);
        x.find(2, 7, 0, 33);
        x.find(2, 8, 1, 33);
        Check.due("eye", 66, x.eye(0));
        Check.due("1 by 66", 1, x.corrected(5, 0));
        Check.due("2 by 66", 3, x.corrected(6, 0));
        Check.due("33 by 66", 50, x.corrected(7, 0));
        Check.due("coarse ones as they are", 33, x.corrected(8, 1));
        Check.due("none", 0, x.corrected(9, 0));
        Check.due("the walker who tells", 3, x.corrected(0, 0));
        Check.due("a gap", 0, x.corrected(19, 0));
    }

    /** "9999 at most", "of COARSE ones the COUNT" */
    private static void correctedIs9999AtMost() {
        SherdField x = new SherdField();
        x.walk(0, 0);
        findMany(x, 0, 0, 0, 9998);
        Check.due("9998", 9998, x.corrected(0, 0));
        x.find(0, 0, 0, 1);
        Check.due("9999", 9999, x.corrected(0, 0));
        x.find(0, 0, 0, 1);
        Check.due("10000", 9999, x.corrected(0, 0));
        Check.due("the count is 10000", 10000, x.count(0, 0));
        Check.due("worth once", 9999, x.worth(0, 0));
        x.sort(0, 2);
        Check.due("worth twice", 2 * 9999, x.worth(0, 0));
        x.sort(0, 3);
        Check.due("worth three times", 3 * 9999, x.worth(0, 0));
        x.sort(0, 1);
        Check.due("coarse", 10000, x.corrected(0, 0));
        Check.due("worth of coarse ones", 10000, x.worth(0, 0));
    }

    /** "9999, if the EYE is 0 and the COUNT is not" */
    private static void correctedByAnEyeOf0() {
        SherdField x = new SherdField();
        x.walk(0, 0);
        x.walk(1, 0);
        x.walk(0, 1);
        x.find(0, 0, 0, 1);
        findMany(x, 1, 0, 0, 100);
        x.find(2, 5, 0, 1);
        x.find(2, 5, 1, 7);
        Check.due("eye of 1", 1, x.eye(0));
        Check.due("by an eye of 1", 100, x.corrected(5, 0));
        x.find(1, 0, 0, 1);
        Check.due("eye of 0", 0, x.eye(0));
        Check.due("by an eye of 0", 9999, x.corrected(5, 0));
        Check.due("by an eye of 0, none", 0, x.corrected(5, 2));
        Check.due("by an eye of 0, none", 0, x.corrected(6, 0));
        Check.due("by an eye of 0, coarse", 7, x.corrected(5, 1));
        Check.due("worth", 9999 + 7, x.worth(5, 0));
        Check.due("a gap", 0, x.corrected(10, 0));
    }

    // ---- part 3

    /** "FINE ones twice, PAINTED ones three times", "0 where a SPADE found nothing" */
    private static void worths() {
        int[] times = {1, 1, 2, 3};
        SherdField x = walked(2, 2);
        x.find(0, 0, 0, 4);
        x.find(0, 1, 0, 5);
        for (int sort = 0; sort < 4; sort++) {
            x.sort(0, sort);
            Check.due("worth of sort " + sort, 4 * times[sort], x.worth(0, 0));
            x.spade(0, 0);
            Check.due("nothing was found", 0, x.worth(0, 0));
            Check.due("just its place", 5 * times[sort], x.worth(1, 0));
            Check.due("the sum", 5 * times[sort], x.worth(0, 1));
            x.spade(0, 1);
            Check.due("lifted", 4 * times[sort], x.worth(0, 0));
        }
    }

    /** "it and those around it, corners too (within THE FIELD)": a ring goes around no edge. */
    private static void ringsEndWithTheField() {
        int[][] sizes = {{2, 2}, {3, 3}, {2, 8}, {8, 2}, {5, 4}, {8, 8}};
        for (int[] size : sizes) {
            int wide = size[0];
            for (int pace = 0; pace < wide * size[1]; pace++) {
                SherdField x = walked(wide, size[1]);
                x.find(pace / wide, pace, 0, 1);
                for (int p = 0; p < wide * size[1]; p++) {
                    boolean near = Math.abs(p / wide - pace / wide) <= 1 && Math.abs(p % wide - pace % wide) <= 1;
                    Check.due("sum of " + p + " around " + pace, near ? 1 : 0, x.worth(p, 1));
                }
            }
        }
    }

    /** "THE GREATEST is the PACE with the greatest SUM, of several the first." */
    private static void theFirstOfTheGreatest() {
        SherdField x = walked(8, 2);
        Check.due("all are 0", 0, x.greatest());
        x.find(0, 7, 0, 2);
        Check.due("the last two columns", 6, x.greatest());
        x.find(1, 8, 0, 1);
        Check.due("one fewer ahead", 6, x.greatest());
        x.find(1, 8, 0, 1);
        Check.due("as many ahead", 0, x.greatest());
        x.find(0, 6, 0, 1);
        Check.due("one more behind", 6, x.greatest());
        x.find(1, 13, 0, 1);
        Check.due("a pace ahead has all three", 6, x.greatest());
        x.find(1, 12, 0, 9);
        Check.due("the first of those around it", 5, x.greatest());

        SherdField y = walked(8, 8);
        y.find(7, 63, 0, 1);
        Check.due("the last pace alone", 54, y.greatest());
        y.spade(63, 0);
        Check.due("all are 0 again", 0, y.greatest());
    }

    /**
     * Four by two paces, the first row walked, with SEED 1: the first SHUFFLE brings what pace 1 had
     * to pace 0, and on: 1, 0, 3, 2; the second leaves 3, 1, 0, 2 there, the third 1, 3, 2, 0.
     */
    private static SherdField fourWalked(int... worths) {
        SherdField x = new SherdField();
        x.field(4, 2);
        x.walk(0, 0);
        for (int pace = 0; pace < 4; pace++) {
            if (worths[pace] > 0) {
                x.find(0, pace, 0, worths[pace]);
            }
        }
        return x;
    }

    /** "a PACE whose SUM is above the greatest SUM" */
    private static void aboveAndNotAlike() {
        // 20 10 0 1 becomes 10 20 1 0: pace 1 has 30 of three at first, then the greatest is 31.
        Check.due("one below", 0, fourWalked(20, 10, 0, 1).heap(1, 1));
        // 0 1 10 20 becomes 1 0 20 10, with 30 around paces 2 and 3; pace 2 has 31 at first.
        Check.due("one above", 1, fourWalked(0, 1, 10, 20).heap(2, 1));
        Check.due("one above, a pace below it", 1, fourWalked(0, 1, 10, 20).heap(6, 1));
        Check.due("like", 0, fourWalked(0, 1, 10, 20).heap(3, 1));
        Check.due("like", 0, fourWalked(0, 0, 10, 20).heap(2, 1));
        Check.due("like, of none", 0, fourWalked(0, 0, 0, 0).heap(0, 1));
    }

    /** "but of at most SPARE of these (0 .. 9)": here no SUM is ever above another. */
    private static void spareAtMost() {
        for (int spare = 0; spare <= 9; spare++) {
            SherdField x = walked(2, 2);
            x.find(0, 0, 0, 9);
            x.rule(1, spare);
            if (spare > 0) {
                Check.due("as many shuffles as are spared", 1, x.heap(0, spare));
            }
            Check.due("one more", 0, x.heap(0, spare + 1));
            Check.due("far more", 0, x.heap(0, 99));
        }
        // 0 1 10 20 becomes 1 0 20 10, then 20 1 0 10, then 1 20 10 0, with 31 in one ring.
        SherdField y = fourWalked(0, 1, 10, 20);
        Check.due("above the first and second", 1, y.heap(2, 2));
        Check.due("like the third", 0, y.heap(2, 3));
        y.rule(1, 1);
        Check.due("which is spared", 1, y.heap(2, 3));
    }

    /** "w .. goes on from SHUFFLE to SHUFFLE", "each of what the one ahead left" */
    private static void shufflesGoOn() {
        // 9 8 0 0 has 17 around paces 0 to 2. The shuffles leave 8 9 0 0, 0 8 9 0, 8 0 0 9 and 9 0 8 0.
        SherdField x = fourWalked(9, 8, 0, 0);
        int[] missed = {1, 2, 2, 3};
        for (int shuffles = 1; shuffles <= 4; shuffles++) {
            for (int spare = 0; spare <= 4; spare++) {
                x.rule(1, spare);
                int due = missed[shuffles - 1] <= spare ? 1 : 0;
                Check.due("heap by " + shuffles + " with " + spare, due, x.heap(0, shuffles));
                Check.due("and again, SEED is as it was", due, x.heap(0, shuffles));
            }
        }
        Check.due("seed", 1, x.rule(0, 1));
    }

    /** "SEED (which 0: any)", "ints that wrap": one shuffle leaves what pace o had at pace i. */
    private static void seedsThatWrap() {
        int[] seeds = {1, 0, -1, Integer.MIN_VALUE, Integer.MAX_VALUE};
        int[][] lies = {{1, 0, 3, 2}, {2, 1, 3, 0}, {2, 3, 0, 1}, {3, 2, 1, 0}, {0, 3, 2, 1}};
        for (int i = 0; i < seeds.length; i++) {
            for (int first = 0; first < 4; first++) {
                for (int second = 0; second < 4; second++) {
                    int[] worths = new int[4];
                    worths[first]++;
                    worths[second]++;
                    SherdField x = fourWalked(worths);
                    x.rule(0, seeds[i]);
                    int[] shuffled = new int[4];
                    for (int at = 0; at < 4; at++) {
                        shuffled[at] = worths[lies[i][at]];
                    }
                    boolean above = greatestOfFour(worths) > greatestOfFour(shuffled);
                    Check.due("heap with seed " + seeds[i], above ? 1 : 0, x.heap(x.greatest(), 1));
                }
            }
        }
    }

    /** The rings around the two in the middle have all that others have. */
    private static int greatestOfFour(int[] worths) {
        return worths[1] + worths[2] + Math.max(worths[0], worths[3]);
    }

    /** "of WORTHS of PACES of walked rows among these PACES": a GAP's stay, and are not counted. */
    private static void walkedRowsAlone() {
        SherdField x = new SherdField();
        x.field(4, 3);
        x.walk(0, 2);
        x.find(0, 10, 0, 10);
        x.find(0, 11, 0, 20);
        x.find(0, 9, 0, 1);
        Check.due("as in a field whose first row is walked", 1, x.heap(10, 1));
        Check.due("as in a field whose first row is walked", 0, x.heap(11, 1));
        // Rows 0 and 3 of two paces: 20 10 and 0 1 become 10 20 and 1 0, then 1 10 and 20 0.
        SherdField z = new SherdField();
        z.field(2, 4);
        z.walk(0, 0);
        z.walk(0, 3);
        z.find(0, 0, 0, 20);
        z.find(0, 1, 0, 10);
        z.find(1, 7, 0, 1);
        Check.due("like the first", 0, z.heap(0, 1));
        z.rule(1, 1);
        Check.due("above the second", 1, z.heap(0, 2));
        Check.due("a gap's pace beside it, too", 1, z.heap(3, 2));
        Check.due("the other row is none", 0, z.heap(7, 2));
        SherdField y = new SherdField();
        Check.due("no row is walked: none is above", 0, y.heap(0, 1));
        Check.due("no row is walked: none is above", 0, y.heap(19, 99));
        y.rule(1, 9);
        Check.due("nine are spared", 1, y.heap(19, 9));
        Check.due("not ten", 0, y.heap(19, 10));
    }

    // ---- part 4

    /** "of half of it (cut) equal parts (cut) go to each of the PACES left, right, above and below" */
    private static void ploughParts() {
        ploughed("a corner", 0, 1, 3, 4, 2);
        ploughed("a side", 1, 0, 5, 6, 3);
        ploughed("within", 4, 1, 7, 8, 4);
        ploughed("the last corner", 8, 7, 3, 4, 2);
        ploughed("the last but one", 7, 8, 5, 6, 3);
        SherdField x = new SherdField();
        x.sheet(0, 20);
        x.mark(0, 6, 9);
        Check.due("half is cut", 5, x.plough(6, 1));
        int[] beside = {1, 5, 7, 11};
        for (int pace : beside) {
            Check.due("beside it", 1, x.plough(pace, 1));
        }
        int[] across = {0, 2, 10, 12, 8, 16};
        for (int pace : across) {
            Check.due("across it, or farther", 0, x.plough(pace, 1));
        }
    }

    /** In three by three paces: too little goes nowhere, and one more goes to each of the sides. */
    private static void ploughed(String what, int pace, int beside, int few, int more, int sides) {
        SherdField x = new SherdField();
        x.field(3, 3);
        x.sheet(0, 9);
        x.mark(0, pace, few);
        Check.due(what + ", too little", few, x.plough(pace, 50));
        Check.due(what + ", too little", 0, x.plough(beside, 50));
        x.mark(0, pace, more);
        Check.due(what + ", just enough", more - sides, x.plough(pace, 1));
        Check.due(what + ", just enough", 1, x.plough(beside, 1));
    }

    /** "So all PACES go at once, n times." */
    private static void ploughAtOnce() {
        SherdField x = new SherdField();
        x.field(2, 2);
        x.sheet(0, 4);
        for (int pace = 0; pace < 4; pace++) {
            x.mark(0, pace, 8);
        }
        for (int pace = 0; pace < 4; pace++) {
            Check.due("what goes comes back", 8, x.plough(pace, 1));
            Check.due("what goes comes back", 8, x.plough(pace, 50));
        }
        x.mark(0, 0, 16);
        int[] once = {12, 10, 10, 8};
        int[] twice = {6 + 2 + 2, 6 + 3 + 2, 6 + 3 + 2, 4 + 2 + 2};
        for (int pace = 0; pace < 4; pace++) {
            Check.due("once", once[pace], x.plough(pace, 1));
            Check.due("twice", twice[pace], x.plough(pace, 2));
        }
        Check.due("none", 16, x.plough(0, 0));
    }

    /** "its places by PACES; 0 where it has none, or not 0 .. 9999" */
    private static void ploughTold() {
        SherdField x = new SherdField();
        x.sheet(0, 64);
        int[] told = {-1, 0, 1, 9999, 10000, 32767, 32768, 65536, 65537, 75535, 75536};
        int[] due = {0, 0, 1, 9999, 0, 0, 0, 0, 1, 9999, 0};
        for (int i = 0; i < told.length; i++) {
            x.mark(0, 19, told[i]);
            Check.due("told " + told[i], due[i], x.plough(19, 0));
        }
        x.mark(0, 20, 500);
        x.mark(0, 63, 500);
        Check.due("places beyond the field do not spread", 0, x.plough(19, 1));
        x.mark(0, 0, 10000);
        Check.due("what is too much does not spread", 0, x.plough(1, 1));
        x.sheet(0, 19);
        x.mark(0, 18, 70);
        Check.due("the last place", 70, x.plough(18, 0));
        Check.due("behind it", 0, x.plough(19, 0));
        Check.due("a part comes there", 11, x.plough(19, 1));
        x.sheet(0, 0);
        Check.due("no place", 0, x.plough(0, 50));
    }

    /** "parts a, b, c of twenty .. for which the sum .. of the squares .. is the least" */
    private static void mixedLeast() {
        for (int part = 0; part <= 20; part++) {
            SherdField x = new SherdField();
            x.profile(0, 0, 100);
            x.profile(1, 1, 100);
            x.walk(0, 0);
            findMany(x, 0, 0, 0, 5 * part);
            findMany(x, 0, 4, 1, 5 * (20 - part));
            Check.due("parts that fit", part, x.mixed(0));
            Check.due("parts that fit", 20 - part, x.mixed(1));
            Check.due("parts that fit", 0, x.mixed(2));
        }
    }

    /** "of several the greatest a, then the greatest b" */
    private static void mixedOfSeveral() {
        mixed("all alike", new int[][] {{9, 9, 9}, {9, 9, 9}}, 20, 0, 0);
        mixed("a and b alike, c too much", new int[][] {{9, 9, 10}, {0, 0, 0}}, 20, 0, 0);
        mixed("a too much, b and c alike", new int[][] {{10, 9, 9}, {0, 0, 0}}, 0, 20, 0);
        mixed("b too much, a and c alike", new int[][] {{9, 10, 9}, {0, 0, 0}}, 20, 0, 0);
        mixed("c alone the least", new int[][] {{1, 1, 0}, {0, 0, 0}}, 0, 0, 20);
        mixed("all of one kind, the most", new int[][] {{100, 100, 100}, {100, 100, 100}}, 20, 0, 0);
        mixed("halves", new int[][] {{1, 0, 9}, {0, 1, 9}}, 10, 10, 0);
        mixed("5 of a, b and c alike", new int[][] {{5, 0, 0}, {0, 3, 3}}, 5, 15, 0);
        mixed("7, 7, 6 of 7, 6, 7 and 6, 7, 7", new int[][] {{1, 0, 0}, {0, 1, 0}, {0, 0, 1}}, 7, 7, 6);
    }

    /** In a field where nothing is counted; profiles of the first kinds, by periods. */
    private static void mixed(String what, int[][] profiles, int a, int b, int c) {
        SherdField x = new SherdField();
        for (int kind = 0; kind < profiles.length; kind++) {
            for (int period = 0; period < 3; period++) {
                x.profile(period, kind, profiles[kind][period]);
            }
        }
        Check.due(what, a, x.mixed(0));
        Check.due(what, b, x.mixed(1));
        Check.due(what, c, x.mixed(2));
    }

    // ---- SHEETS of part 5

    /** "SHEETS 0, 1 are rows of shorts with 0 to 64 places .., or MISSING (at first)." */
    private static void sheets() {
        SherdField x = new SherdField();
        for (int s = 0; s < 2; s++) {
            Check.due("missing at first", Check.NOTHING, x.lose(s));
            Check.due("of 64", 64, x.sheet(s, 64));
            Check.due("its last place", 0, x.mark(s, 63, 32767));
            Check.due("beyond it", Check.INDEX, x.mark(s, 64, 1));
            Check.due("the most", 32767, x.mark(s, 63, 32768));
            Check.due("wraps", -32768, x.mark(s, 63, -32768));
            Check.due("the least", -32768, x.mark(s, 63, -32769));
            Check.due("wraps", 32767, x.mark(s, 63, 0));
            Check.due("of none", 0, x.sheet(s, 0));
            Check.due("none is not missing", Check.INDEX, x.mark(s, 0, 1));
            Check.due("none is not missing", 0, x.lose(s));
            Check.due("missing", Check.NOTHING, x.lose(s));
        }
    }
}
