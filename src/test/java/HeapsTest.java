/** Promises 15 to 19: worths, the greatest, heaps, spades, rules. */
final class HeapsTest {
    public static void main(String[] args) {
        worths();
        sums();
        greatest();
        heapByHand();
        heapsAndSpare();
        heapsInGaps();
        wrongHeaps();
        spades();
        rules();
        Check.end();
    }

    private static void worths() {
        SherdField x = new SherdField();
        x.walk(0, 0);
        for (int kind = 0; kind < 4; kind++) {
            x.find(0, kind, kind, 5);
            x.find(0, 4, kind, 1);
        }
        int[] due = {5, 5, 10, 15, 7};
        for (int pace = 0; pace < 5; pace++) {
            Check.due("worth " + pace, due[pace], x.worth(pace, 0));
        }
        Check.due("a gap", 0, x.worth(5, 0));
        x.sort(0, 3);
        Check.due("painted now", 15, x.worth(0, 0));
        Check.due("painted now", 9, x.worth(4, 0));
        x.walk(1, 0);
        x.find(1, 0, 0, 99);
        x.walk(0, 1);
        x.find(2, 5, 0, 6);
        Check.due("eye", 18, x.eye(0));
        Check.due("three times the corrected one", 99, x.worth(5, 0));
    }

    private static void sums() {
        SherdField x = new SherdField();
        x.field(3, 3);
        for (int row = 0; row < 3; row++) {
            x.walk(0, row);
        }
        for (int pace = 0; pace < 9; pace++) {
            x.find(pace / 3, pace, 0, pace + 1);
        }
        int[] due = {12, 21, 16, 27, 45, 33, 24, 39, 28};
        for (int pace = 0; pace < 9; pace++) {
            Check.due("sum " + pace, due[pace], x.worth(pace, 1));
        }
        for (int wrong : new int[] {-1, 9, Integer.MIN_VALUE, Integer.MAX_VALUE}) {
            Check.due("worth pace", Check.BAD, x.worth(wrong, 0));
            Check.due("worth pace", Check.BAD, x.worth(wrong, 1));
        }
        for (int wrong : new int[] {-1, 2, Integer.MIN_VALUE, Integer.MAX_VALUE}) {
            Check.due("worth what", Check.BAD, x.worth(0, wrong));
        }
    }

    private static void greatest() {
        SherdField x = new SherdField();
        Check.due("of like ones the first", 0, x.greatest());
        x.walk(0, 3);
        x.walk(0, 0);
        x.find(1, 2, 0, 1);
        Check.due("the first ring around pace 2", 1, x.greatest());
        x.spade(2, 0);
        x.find(0, 19, 0, 1);
        Check.due("the first ring around it", 13, x.greatest());
        x.find(0, 17, 0, 1);
        Check.due("two in one ring", 13, x.greatest());
        x.find(0, 15, 0, 2);
        Check.due("three in one ring", 11, x.greatest());
        x.spade(15, 0);
        Check.due("two in one ring", 13, x.greatest());
    }

    /**
     * Two by two paces of which one row is walked: a shuffle is one swap or none, and every ring is
     * all the field, so no sum is ever above another.
     */
    private static void heapByHand() {
        SherdField x = new SherdField();
        x.field(2, 2);
        x.walk(0, 0);
        x.find(0, 0, 0, 9);
        for (int shuffles = 1; shuffles < 12; shuffles++) {
            Check.due("heap", 0, x.heap(0, shuffles));
        }
        x.rule(1, 9);
        for (int shuffles = 1; shuffles < 12; shuffles++) {
            Check.due("heap with spare", shuffles <= 9 ? 1 : 0, x.heap(0, shuffles));
        }

        Check.due("heap by one shuffle", heapOfTwo(1, 1, 0), twoOfEight().heap(0, 1));
        for (int seed = -20; seed < 20; seed++) {
            SherdField y = twoOfEight();
            y.rule(0, seed * 1234567);
            for (int shuffles = 1; shuffles <= 99; shuffles += 7) {
                for (int spare = 0; spare <= 9; spare += 3) {
                    y.rule(1, spare);
                    Check.due("heap " + seed, heapOfTwo(seed * 1234567, shuffles, spare), y.heap(0, shuffles));
                    Check.due("heap " + seed, heapOfTwo(seed * 1234567, shuffles, spare), y.heap(9, shuffles));
                }
            }
        }
    }

    /**
     * Eight paces in a row walked, and all worth at the first two: the sum is kept only where a
     * shuffle leaves both in one ring. Seed 1 goes 1103527590, 2524885223, 662824084, ...
     */
    private static SherdField twoOfEight() {
        SherdField x = new SherdField();
        x.field(8, 2);
        x.walk(0, 0);
        x.find(0, 0, 0, 9);
        x.find(0, 1, 0, 9);
        return x;
    }

    private static int heapOfTwo(int seed, int shuffles, int spare) {
        int[] worths = {9, 9, 0, 0, 0, 0, 0, 0};
        int w = seed;
        int missed = 0;
        for (int s = 0; s < shuffles; s++) {
            for (int i = 7; i >= 1; i--) {
                w = w * 1103515245 + 12345;
                int j = (w >>> 8) % (i + 1);
                int kept = worths[i];
                worths[i] = worths[j];
                worths[j] = kept;
            }
            int first = 0;
            while (worths[first] == 0) {
                first++;
            }
            int second = first + 1;
            while (worths[second] == 0) {
                second++;
            }
            if (second - first <= 2) {
                missed++;
            }
        }
        return missed <= spare ? 1 : 0;
    }

    private static void heapsAndSpare() {
        SherdField x = new SherdField();
        x.field(8, 8);
        for (int row = 0; row < 8; row++) {
            x.walk(0, row);
        }
        for (int pace : new int[] {18, 19, 20, 26, 27, 28, 34, 35, 36}) {
            x.find(pace / 8, pace, 0, 50);
        }
        Check.due("a plain heap", 1, x.heap(27, 99));
        Check.due("its edge is none", 0, x.heap(9, 99));
        Check.due("asking again answers alike", 1, x.heap(27, 99));
        Check.due("worths are not left shuffled", 450, x.worth(27, 1));
        x.spade(27, 0);
        Check.due("a spade lowers it", 400, x.worth(27, 1));
        Check.due("still a heap", 1, x.heap(27, 99));
    }

    private static void heapsInGaps() {
        SherdField x = new SherdField();
        Check.due("no walk: nothing is above nothing", 0, x.heap(0, 1));
        x.rule(1, 1);
        Check.due("but one is spared", 1, x.heap(0, 1));
        Check.due("not two", 0, x.heap(0, 2));
        x.walk(0, 1);
        x.find(0, 5, 3, 9);
        x.find(0, 6, 3, 9);
        Check.due("a pace of a gap beside it has its sum", 54, x.worth(0, 1));
        Check.due("and is a heap as its neighbour is", x.heap(5, 3), x.heap(0, 3));
    }

    private static void wrongHeaps() {
        SherdField x = new SherdField();
        x.rule(1, 9);
        for (int wrong : new int[] {-1, 20, Integer.MIN_VALUE, Integer.MAX_VALUE}) {
            Check.due("heap pace", Check.BAD, x.heap(wrong, 1));
        }
        for (int wrong : new int[] {-1, 0, 100, Integer.MIN_VALUE, Integer.MAX_VALUE}) {
            Check.due("heap shuffles", Check.BAD, x.heap(0, wrong));
        }
    }

    private static void spades() {
        SherdField x = new SherdField();
        x.walk(0, 0);
        x.find(0, 1, 0, 4);
        Check.due("found at first", 1, x.spade(1, 1));
        Check.due("found", 1, x.spade(1, 0));
        Check.due("worth", 0, x.worth(1, 0));
        Check.due("the count stays", 4, x.count(1, 0));
        Check.due("so does the corrected one", 4, x.corrected(1, 0));
        Check.due("nothing was found", 0, x.spade(1, 0));
        Check.due("nothing was found", 0, x.spade(1, 1));
        Check.due("lifted", 4, x.worth(1, 0));
        Check.due("found", 1, x.spade(1, 1));
        x.field(8, 8);
        Check.due("the last pace", 1, x.spade(63, 0));
        Check.due("the last pace", 0, x.spade(63, 0));
        Check.due("the one ahead", 1, x.spade(62, 0));
        Check.due("the first one", 1, x.spade(0, 0));
        Check.due("many", 3, x.many(7));
        for (int wrong : new int[] {-1, 64, Integer.MIN_VALUE, Integer.MAX_VALUE}) {
            Check.due("spade pace", Check.BAD, x.spade(wrong, 0));
        }
        for (int wrong : new int[] {-1, 2, Integer.MIN_VALUE, Integer.MAX_VALUE}) {
            Check.due("spade found", Check.BAD, x.spade(1, wrong));
        }
        Check.due("many", 3, x.many(7));
    }

    private static void rules() {
        SherdField x = new SherdField();
        int was = 1;
        for (int seed : new int[] {0, -1, Integer.MIN_VALUE, Integer.MAX_VALUE, 7}) {
            Check.due("seed", was, x.rule(0, seed));
            was = seed;
        }
        was = 0;
        for (int spare : new int[] {9, 0, 5}) {
            Check.due("spare", was, x.rule(1, spare));
            was = spare;
        }
        for (int wrong : new int[] {-1, 10, Integer.MIN_VALUE, Integer.MAX_VALUE}) {
            Check.due("spare", Check.BAD, x.rule(1, wrong));
        }
        for (int wrong : new int[] {-1, 2, Integer.MIN_VALUE, Integer.MAX_VALUE}) {
            Check.due("which", Check.BAD, x.rule(wrong, 0));
        }
        Check.due("spare stays", 5, x.rule(1, 5));
        Check.due("seed stays", 7, x.rule(0, 7));
    }
}
