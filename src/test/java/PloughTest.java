/** Promises 20 to 22: ploughs, profiles, mixed periods. */
final class PloughTest {
    public static void main(String[] args) {
        ploughs();
        ploughKeepsAll();
        whatSheetsTell();
        wrongPloughs();
        profiles();
        mixed();
        mixedOfLikeFits();
        mixedFarOff();
        mixedByOne();
        Check.end();
    }

    private static void ploughs() {
        SherdField x = new SherdField();
        x.field(3, 3);
        x.sheet(0, 9);
        x.mark(0, 4, 1001);
        int[] once = {0, 125, 0, 125, 501, 125, 0, 125, 0};
        // 125: half is 62, a third of it 20; 501: half is 250, a quarter of it 62.
        int[] twice = {40, 127, 40, 127, 333, 127, 40, 127, 40};
        for (int pace = 0; pace < 9; pace++) {
            Check.due("no plough", pace == 4 ? 1001 : 0, x.plough(pace, 0));
            Check.due("one plough", once[pace], x.plough(pace, 1));
            Check.due("two ploughs", twice[pace], x.plough(pace, 2));
        }
        x.mark(0, 4, 3);
        Check.due("too little to spread", 3, x.plough(4, 50));
        x.field(2, 2);
        Check.due("a smaller field", 0, x.plough(0, 3));
        x.mark(0, 0, 9999);
        Check.due("a corner", 9999 - 2 * 2499, x.plough(0, 1));
        Check.due("beside it", 2499, x.plough(1, 1));
        Check.due("below it", 2499, x.plough(2, 1));
        Check.due("across", 0, x.plough(3, 1));
    }

    private static void ploughKeepsAll() {
        SherdField x = new SherdField();
        x.field(8, 8);
        x.sheet(0, 64);
        for (int pace = 0; pace < 64; pace++) {
            x.mark(0, pace, pace % 3 == 0 ? 9999 : pace);
        }
        int before = 0;
        int behind = 0;
        for (int pace = 0; pace < 64; pace++) {
            before += x.plough(pace, 0);
            behind += x.plough(pace, 50);
        }
        Check.due("nothing is lost", before, behind);
    }

    private static void whatSheetsTell() {
        SherdField x = new SherdField();
        x.sheet(0, 5);
        x.sheet(1, 9);
        x.mark(1, 8, 500);
        x.mark(0, 0, 10000);
        x.mark(0, 1, 9999);
        x.mark(0, 2, -1);
        x.mark(0, 3, 32767);
        x.mark(0, 4, 65536 + 12);
        int[] due = {0, 9999, 0, 0, 12, 0, 0, 0, 0};
        for (int pace = 0; pace < due.length; pace++) {
            Check.due("told " + pace, due[pace], x.plough(pace, 0));
        }
        x.sheet(0, 0);
        Check.due("no places", 0, x.plough(19, 3));
    }

    private static void wrongPloughs() {
        SherdField x = new SherdField();
        Check.due("missing", Check.NOTHING, x.plough(0, 0));
        Check.due("BAD ahead of NOTHING", Check.BAD, x.plough(20, 0));
        Check.due("BAD ahead of NOTHING", Check.BAD, x.plough(0, 51));
        x.sheet(1, 4);
        Check.due("the other sheet does not help", Check.NOTHING, x.plough(0, 0));
        x.sheet(0, 4);
        for (int wrong : new int[] {-1, 20, Integer.MIN_VALUE, Integer.MAX_VALUE}) {
            Check.due("plough pace", Check.BAD, x.plough(wrong, 0));
        }
        for (int wrong : new int[] {-1, 51, Integer.MIN_VALUE, Integer.MAX_VALUE}) {
            Check.due("plough n", Check.BAD, x.plough(0, wrong));
        }
        Check.due("50 are fine", 0, x.plough(19, 50));
    }

    private static void profiles() {
        SherdField x = new SherdField();
        for (int period = 0; period < 3; period++) {
            for (int kind = 0; kind < 4; kind++) {
                Check.due("profile at first", 0, x.profile(period, kind, period * 4 + kind + 1));
            }
        }
        for (int period = 0; period < 3; period++) {
            for (int kind = 0; kind < 4; kind++) {
                Check.due("profile", period * 4 + kind + 1, x.profile(period, kind, 100));
                Check.due("profile", 100, x.profile(period, kind, 0));
            }
        }
        for (int wrong : new int[] {-1, 3, Integer.MIN_VALUE, Integer.MAX_VALUE}) {
            Check.due("profile period", Check.BAD, x.profile(wrong, 0, 0));
            Check.due("mixed period", Check.BAD, x.mixed(wrong));
        }
        for (int wrong : new int[] {-1, 4, Integer.MIN_VALUE, Integer.MAX_VALUE}) {
            Check.due("profile kind", Check.BAD, x.profile(0, wrong, 0));
        }
        for (int wrong : new int[] {-1, 101, Integer.MIN_VALUE, Integer.MAX_VALUE}) {
            Check.due("profile v", Check.BAD, x.profile(0, 0, wrong));
        }
        Check.due("profile stays behind a refusal", 0, x.profile(0, 0, 0));
    }

    private static void mixed() {
        SherdField x = new SherdField();
        x.profile(0, 0, 20);
        x.profile(1, 1, 20);
        x.profile(2, 3, 20);
        x.walk(0, 0);
        x.walk(0, 2);
        x.walk(1, 2);
        x.find(0, 0, 0, 3);
        x.find(1, 12, 1, 12);
        x.find(2, 11, 1, 4);
        x.find(0, 1, 3, 5);
        Check.due("the counted ones fit", 3, x.mixed(0));
        Check.due("the counted ones fit", 12, x.mixed(1));
        Check.due("the counted ones fit", 5, x.mixed(2));
        x.sort(0, 1);
        x.spade(0, 0);
        Check.due("sorts and spades are all one", 3, x.mixed(0));
    }

    private static void mixedOfLikeFits() {
        SherdField x = new SherdField();
        Check.due("all fits are alike: the greatest a", 20, x.mixed(0));
        Check.due("all fits are alike", 0, x.mixed(1));
        Check.due("all fits are alike", 0, x.mixed(2));
        x.profile(0, 0, 50);
        Check.due("a does not fit: the greatest b", 0, x.mixed(0));
        Check.due("a does not fit: the greatest b", 20, x.mixed(1));
        x.profile(1, 1, 50);
        Check.due("neither does b", 20, x.mixed(2));
        x.profile(2, 2, 50);
        Check.due("7, 7, 6 of 7, 6, 7 and 6, 7, 7", 7, x.mixed(0));
        Check.due("7, 7, 6", 7, x.mixed(1));
        Check.due("7, 7, 6", 6, x.mixed(2));
    }

    /** One sherd more or less of a kind tells here. */
    private static void mixedByOne() {
        SherdField x = new SherdField();
        x.profile(0, 0, 1);
        Check.due("none counted", 0, x.mixed(0));
        x.walk(0, 3);
        x.find(0, 19, 0, 1);
        Check.due("one counted", 20, x.mixed(0));
    }

    /** Squares here are far above what an int holds. */
    private static void mixedFarOff() {
        SherdField x = new SherdField();
        x.profile(0, 1, 100);
        x.profile(1, 0, 100);
        x.profile(2, 0, 99);
        x.walk(0, 0);
        for (int i = 0; i < 200; i++) {
            x.find(0, i % 5, 0, 99);
        }
        Check.due("all of the period nearest", 20, x.mixed(1));
        Check.due("none of the others", 0, x.mixed(0));
        Check.due("none of the others", 0, x.mixed(2));
    }
}
