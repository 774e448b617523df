/** Promises 12 to 14: pairs, eyes, corrected counts. */
final class EyesTest {
    public static void main(String[] args) {
        pairs();
        wrongPairs();
        eyes();
        eyesOfOne();
        eyesByPair();
        corrected();
        correctedAtMost();
        Check.end();
    }

    private static void pairs() {
        SherdField x = new SherdField();
        x.walk(0, 0);
        x.walk(0, 0);
        x.walk(1, 0);
        x.walk(1, 2);
        x.walk(0, 2);
        x.walk(0, 1);
        x.walk(1, 3);
        x.find(0, 0, 0, 3);
        x.find(1, 0, 2, 4);
        x.find(2, 1, 3, 10);
        x.find(2, 1, 1, 50);
        x.find(3, 10, 0, 1);
        x.find(5, 5, 0, 90);
        x.find(6, 15, 0, 90);
        Check.due("pairs", 3, x.pair(0, 1, 0));
        Check.due("pairs", 3, x.pair(1, 0, 0));
        Check.due("seen by the first", 7, x.pair(0, 1, 1));
        Check.due("seen by the second, in each pair", 21, x.pair(0, 1, 2));
        Check.due("the other way", 21, x.pair(1, 0, 1));
        Check.due("the other way", 7, x.pair(1, 0, 2));
        x.sort(1, 0);
        Check.due("no more coarse", 121, x.pair(1, 0, 1));
        x.sort(3, 1);
        Check.due("painted ones are coarse now", 101, x.pair(1, 0, 1));
        Check.due("no pairs", 0, x.pair(0, 4, 0));
        Check.due("no pairs", 0, x.pair(0, 4, 1));
        Check.due("no pairs", 0, x.pair(4, 0, 2));
    }

    private static void wrongPairs() {
        SherdField x = new SherdField();
        for (int wrong : new int[] {-1, 5, Integer.MIN_VALUE, Integer.MAX_VALUE}) {
            Check.due("pair walker", Check.BAD, x.pair(wrong, 0, 0));
            Check.due("pair other", Check.BAD, x.pair(0, wrong, 0));
            Check.due("eye", Check.BAD, x.eye(wrong));
        }
        for (int wrong : new int[] {-1, 3, Integer.MIN_VALUE, Integer.MAX_VALUE}) {
            Check.due("pair what", Check.BAD, x.pair(0, 1, wrong));
        }
        for (int walker = 0; walker < 5; walker++) {
            Check.due("pair of one", Check.BAD, x.pair(walker, walker, 0));
        }
    }

    private static void eyes() {
        SherdField x = new SherdField();
        x.walk(0, 0);
        x.find(0, 0, 0, 9);
        Check.due("without pairs", 100, x.eye(0));
        x.walk(0, 0);
        Check.due("a row walked twice by one is no pair", 100, x.eye(0));
        x.walk(1, 0);
        Check.due("saw nothing", 0, x.eye(1));
        Check.due("saw 9 of 9", 100, x.eye(0));
        x.find(2, 0, 0, 3);
        Check.due("saw 3 and 3 of 9 and 3", 50, x.eye(1));
        Check.due("saw 9 and 0 of 9 and 3", 75, x.eye(0));
        x.find(2, 0, 1, 90);
        Check.due("coarse ones are not seen", 50, x.eye(1));
        x.sort(0, 1);
        x.sort(1, 1);
        Check.due("none was seen", 100, x.eye(1));
        Check.due("none was seen", 100, x.eye(0));
    }

    private static void eyesOfOne() {
        SherdField x = new SherdField();
        x.walk(0, 0);
        x.walk(1, 0);
        x.find(0, 0, 0, 1);
        Check.due("one of one", 100, x.eye(0));
        Check.due("none of one", 0, x.eye(1));
    }

    /** The better one is told for each pair: here each is better in one of two. */
    private static void eyesByPair() {
        SherdField x = new SherdField();
        x.walk(0, 0);
        x.walk(1, 0);
        x.walk(0, 1);
        x.walk(1, 1);
        x.find(0, 0, 0, 10);
        x.find(1, 0, 0, 5);
        x.find(3, 5, 0, 20);
        Check.due("10 of 30", 33, x.eye(0));
        Check.due("25 of 30", 83, x.eye(1));
    }

    private static void corrected() {
        SherdField x = new SherdField();
        Check.due("a gap", 0, x.corrected(0, 0));
        x.walk(0, 0);
        x.walk(1, 0);
        x.walk(0, 1);
        x.find(0, 0, 0, 3);
        x.find(1, 0, 0, 7);
        x.find(2, 5, 0, 10);
        x.find(2, 6, 1, 10);
        Check.due("eye", 42, x.eye(0));
        Check.due("10 by 42", 23, x.corrected(5, 0));
        Check.due("coarse ones stay", 10, x.corrected(6, 1));
        Check.due("7 by 100", 7, x.corrected(0, 0));
        x.sort(1, 2);
        Check.due("no more coarse", 23, x.corrected(6, 1));
        Check.due("none there", 0, x.corrected(6, 0));
        for (int wrong : new int[] {-1, 20, Integer.MIN_VALUE, Integer.MAX_VALUE}) {
            Check.due("corrected pace", Check.BAD, x.corrected(wrong, 0));
        }
        for (int wrong : new int[] {-1, 4, Integer.MIN_VALUE, Integer.MAX_VALUE}) {
            Check.due("corrected kind", Check.BAD, x.corrected(0, wrong));
        }
    }

    private static void correctedAtMost() {
        SherdField x = new SherdField();
        x.walk(0, 0);
        x.walk(1, 0);
        x.walk(0, 1);
        x.find(1, 0, 0, 99);
        x.find(2, 5, 0, 1);
        x.find(2, 5, 1, 1);
        Check.due("eye", 0, x.eye(0));
        Check.due("eye of 0", 9999, x.corrected(5, 0));
        Check.due("eye of 0, coarse", 1, x.corrected(5, 1));
        Check.due("eye of 0, count of 0", 0, x.corrected(5, 2));
        x.find(0, 0, 0, 1);
        Check.due("eye", 1, x.eye(0));
        for (int i = 0; i < 98; i++) {
            x.find(2, 6, 0, i < 97 ? 1 : 2);
        }
        Check.due("9900", 9900, x.corrected(6, 0));
        x.find(2, 6, 0, 1);
        Check.due("10000 is cut", 9999, x.corrected(6, 0));

        SherdField y = new SherdField();
        y.walk(0, 0);
        for (int i = 0; i < 102; i++) {
            y.find(0, 0, i % 2, 99);
            y.find(0, 0, 1, i < 95 ? 99 : 1);
        }
        Check.due("count", y.count(0, 1), y.corrected(0, 1));
        Check.due("coarse ones are not cut", 1, y.corrected(0, 1) > 9999 ? 1 : 0);
        y.sort(1, 0);
        Check.due("others are", 9999, y.corrected(0, 1));
    }
}
