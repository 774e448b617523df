/** Promises 1 to 11 and 33: a new object, the field, kinds, walks, finds, counts. */
final class FieldTest {
    public static void main(String[] args) {
        newObject();
        constants();
        fieldSizes();
        fieldKeepsTheRest();
        sorts();
        walks();
        walksWithLeave();
        finds();
        told();
        ofFinds();
        counts();
        gaps();
        led();
        many();
        everythingFull();
        Check.end();
    }

    private static void newObject() {
        SherdField x = new SherdField();
        int[] due = {20, 0, 0, 4, 0, 0, 0, 0};
        for (int what = 0; what < due.length; what++) {
            Check.due("new many " + what, due[what], x.many(what));
        }
        Check.due("new gap", 0, x.gap());
        Check.due("new greatest", 0, x.greatest());
        Check.due("new lets", Check.NONE, x.lets(0, 0, 0));
        Check.due("new told", Check.BAD, x.told(0, 0));
        Check.due("new of", Check.BAD, x.of(0, 0));
        Check.due("new withdraw", Check.BAD, x.withdraw(0));
        Check.due("new seed", 1, x.rule(0, 1));
        Check.due("new spare", 0, x.rule(1, 0));
        Check.due("new sheet 0", Check.NOTHING, x.lose(0));
        Check.due("new sheet 1", Check.NOTHING, x.lose(1));
    }

    private static void constants() {
        Check.due("BAD", Check.BAD, SherdField.BAD);
        Check.due("NO", Check.NO, SherdField.NO);
        Check.due("FULL", Check.FULL, SherdField.FULL);
        Check.due("NONE", Check.NONE, SherdField.NONE);
        Check.due("NOTHING", Check.NOTHING, SherdField.NOTHING);
        Check.due("INDEX", Check.INDEX, SherdField.INDEX);
        Check.due("SIZE", Check.SIZE, SherdField.SIZE);
    }

    private static void fieldSizes() {
        SherdField x = new SherdField();
        for (int wide = 0; wide <= 10; wide++) {
            for (int high = 0; high <= 10; high++) {
                boolean good = wide >= 2 && wide <= 8 && high >= 2 && high <= 8;
                Check.due("field " + wide + " " + high, good ? wide * high : Check.BAD, x.field(wide, high));
            }
        }
        for (int far : Check.FAR) {
            Check.due("field far", Check.BAD, x.field(far, 4));
            Check.due("field far", Check.BAD, x.field(4, far));
        }
        Check.due("field stays behind a refusal", 64, x.many(0));
    }

    private static void fieldKeepsTheRest() {
        SherdField x = new SherdField();
        Check.leave(x, "rows 0 to 7");
        x.days(9);
        x.walk(0, 0);
        x.find(0, 1, 1, 7);
        x.spade(3, 0);
        x.rule(0, 55);
        x.rule(1, 3);
        x.sort(0, 3);
        x.profile(1, 2, 44);
        x.sheet(1, 5);
        x.feed(0, 0, 0);
        Check.due("refused field", Check.BAD, x.field(9, 9));
        Check.due("a refused field keeps walks", 1, x.many(1));
        Check.due("a refused field keeps spades", 1, x.many(7));
        Check.due("field", 20, x.field(5, 4));
        int[] due = {20, 0, 0, 4, 1, 9, 12, 0};
        for (int what = 0; what < due.length; what++) {
            Check.due("many " + what + " behind field", due[what], x.many(what));
        }
        Check.due("count behind field", 0, x.count(1, 1));
        Check.due("walk numbers begin anew", 0, x.walk(0, 0));
        Check.due("its count", 0, x.count(1, 1));
        Check.due("its finds", 0, x.told(0, 3));
        Check.due("find numbers begin anew", 0, x.find(0, 1, 1, 2));
        Check.due("its count", 2, x.count(1, 1));
        Check.due("spade", 1, x.spade(3, 1));
        Check.due("seed", 55, x.rule(0, 1));
        Check.due("spare", 3, x.rule(1, 0));
        Check.due("sort", 3, x.sort(0, 0));
        Check.due("profile", 44, x.profile(1, 2, 0));
        Check.due("sheet", 5, x.lose(1));
    }

    private static void sorts() {
        SherdField x = new SherdField();
        int[][] is = {{1, 0, 0, 0}, {1, 1, 0, 0}, {1, 0, 1, 0}, {1, 0, 1, 1}};
        for (int kind = 0; kind < 4; kind++) {
            for (int sort = 0; sort < 4; sort++) {
                Check.due("isOf at first", is[kind][sort], x.isOf(kind, sort));
            }
        }
        for (int kind = 0; kind < 4; kind++) {
            int was = kind;
            for (int sort = 3; sort >= 0; sort--) {
                Check.due("sort", was, x.sort(kind, sort));
                was = sort;
                for (int asked = 0; asked < 4; asked++) {
                    Check.due("isOf", is[sort][asked], x.isOf(kind, asked));
                }
            }
        }
        for (int wrong : new int[] {-1, 4, Integer.MIN_VALUE, Integer.MAX_VALUE}) {
            Check.due("sort", Check.BAD, x.sort(wrong, 0));
            Check.due("sort", Check.BAD, x.sort(0, wrong));
            Check.due("isOf", Check.BAD, x.isOf(wrong, 0));
            Check.due("isOf", Check.BAD, x.isOf(0, wrong));
        }
        Check.due("sort stays behind a refusal", 0, x.sort(0, 0));
    }

    private static void walks() {
        SherdField x = new SherdField();
        for (int wrong : new int[] {-1, 5, Integer.MIN_VALUE, Integer.MAX_VALUE}) {
            Check.due("walk", Check.BAD, x.walk(wrong, 0));
        }
        for (int wrong : new int[] {-1, 4, 7, Integer.MIN_VALUE, Integer.MAX_VALUE}) {
            Check.due("walk", Check.BAD, x.walk(0, wrong));
        }
        for (int i = 0; i < 60; i++) {
            Check.due("walk", i, x.walk(i % 5, i % 4));
        }
        Check.due("a 61st walk", Check.FULL, x.walk(0, 0));
        Check.due("BAD ahead of FULL", Check.BAD, x.walk(0, 4));
        Check.due("walks", 60, x.many(1));
        Check.due("last walk", 4, x.told(59, 0));
        Check.leave(x, "rows 0 to 0");
        Check.due("NO ahead of FULL", Check.NO, x.walk(0, 1));
        Check.due("FULL", Check.FULL, x.walk(0, 0));
        x.field(2, 8);
        Check.due("row 7", Check.NO, x.walk(0, 7));
        Check.due("row 8", Check.BAD, x.walk(0, 8));
    }

    private static void walksWithLeave() {
        SherdField x = new SherdField();
        Check.due("no leave ever", 0, x.walk(3, 2));
        Check.due("leave", 0, Check.leave(x, "rows 1 to 2 days 3 to 4 but who 2"));
        Check.due("too early", Check.NO, x.walk(0, 1));
        Check.due("walks", 1, x.many(1));
        x.days(3);
        Check.due("on the day", 1, x.walk(0, 1));
        Check.due("its day", 3, x.told(1, 2));
        Check.due("not he", Check.NO, x.walk(2, 1));
        Check.due("not there", Check.NO, x.walk(0, 3));
        Check.due("not there", Check.NO, x.walk(0, 0));
        Check.due("withdraw", 1, x.withdraw(0));
        Check.due("there was one", Check.NO, x.walk(0, 1));
    }

    private static void finds() {
        SherdField x = new SherdField();
        Check.due("no walk", Check.BAD, x.find(0, 0, 0, 1));
        x.walk(0, 1);
        for (int wrong : new int[] {-1, 1, Integer.MIN_VALUE, Integer.MAX_VALUE}) {
            Check.due("walk", Check.BAD, x.find(wrong, 5, 0, 1));
        }
        for (int wrong : new int[] {-1, 0, 4, 10, 20, Integer.MIN_VALUE, Integer.MAX_VALUE}) {
            Check.due("pace", Check.BAD, x.find(0, wrong, 0, 1));
        }
        for (int wrong : new int[] {-1, 4, Integer.MIN_VALUE, Integer.MAX_VALUE}) {
            Check.due("kind", Check.BAD, x.find(0, 5, wrong, 1));
        }
        for (int wrong : new int[] {-1, 0, 100, Integer.MIN_VALUE, Integer.MAX_VALUE}) {
            Check.due("n", Check.BAD, x.find(0, 5, 0, wrong));
        }
        Check.due("nothing found", 0, x.told(0, 3));
        for (int i = 0; i < 200; i++) {
            Check.due("find", i, x.find(0, 5 + i % 5, i % 4, i % 2 == 0 ? 1 : 99));
        }
        Check.due("a 201st find", Check.FULL, x.find(0, 5, 0, 1));
        Check.due("BAD ahead of FULL", Check.BAD, x.find(0, 5, 0, 0));
        Check.due("all", 10000, x.told(0, 3));
        Check.due("finds", 200, x.many(2));
    }

    private static void told() {
        SherdField x = new SherdField();
        x.days(60);
        x.walk(4, 3);
        x.days(1);
        x.walk(2, 3);
        x.walk(2, 0);
        int[][] due = {{4, 3, 60, 0, 1}, {2, 3, 61, 0, 0}, {2, 0, 61, 0, 1}};
        for (int walk = 0; walk < 3; walk++) {
            for (int what = 0; what < 5; what++) {
                Check.due("told " + walk + " " + what, due[walk][what], x.told(walk, what));
            }
        }
        x.find(1, 15, 1, 3);
        x.find(1, 19, 0, 4);
        Check.due("together", 7, x.told(1, 3));
        Check.due("the second tells", 1, x.told(1, 4));
        Check.due("the first does not", 0, x.told(0, 4));
        x.find(0, 17, 2, 7);
        Check.due("of several the first", 1, x.told(0, 4));
        Check.due("of several the first", 0, x.told(1, 4));
        for (int wrong : new int[] {-1, 5, Integer.MIN_VALUE, Integer.MAX_VALUE}) {
            Check.due("told what", Check.BAD, x.told(0, wrong));
        }
        for (int wrong : new int[] {-1, 3, Integer.MIN_VALUE, Integer.MAX_VALUE}) {
            Check.due("told walk", Check.BAD, x.told(wrong, 0));
        }
    }

    private static void ofFinds() {
        SherdField x = new SherdField();
        x.walk(0, 2);
        x.walk(1, 0);
        x.find(1, 4, 3, 99);
        x.find(0, 12, 1, 1);
        int[][] due = {{1, 4, 3, 99}, {0, 12, 1, 1}};
        for (int find = 0; find < 2; find++) {
            for (int what = 0; what < 4; what++) {
                Check.due("of " + find + " " + what, due[find][what], x.of(find, what));
            }
        }
        for (int wrong : new int[] {-1, 4, Integer.MIN_VALUE, Integer.MAX_VALUE}) {
            Check.due("of what", Check.BAD, x.of(0, wrong));
        }
        for (int wrong : new int[] {-1, 2, Integer.MIN_VALUE, Integer.MAX_VALUE}) {
            Check.due("of find", Check.BAD, x.of(wrong, 0));
        }
    }

    private static void counts() {
        SherdField x = new SherdField();
        x.walk(0, 1);
        x.walk(0, 1);
        x.find(0, 5, 0, 4);
        x.find(0, 5, 0, 3);
        x.find(0, 5, 1, 2);
        x.find(1, 5, 0, 8);
        Check.due("of the greater walk", 7, x.count(5, 0));
        Check.due("of the greater walk", 2, x.count(5, 1));
        Check.due("another pace", 0, x.count(6, 0));
        Check.due("a gap", 0, x.count(0, 0));
        x.find(1, 9, 3, 1);
        Check.due("of like walks the first", 7, x.count(5, 0));
        x.find(1, 9, 3, 1);
        Check.due("now the second is greater", 8, x.count(5, 0));
        Check.due("and tells all its row", 2, x.count(9, 3));
        Check.due("what only the first had", 0, x.count(5, 1));
        for (int wrong : new int[] {-1, 20, Integer.MIN_VALUE, Integer.MAX_VALUE}) {
            Check.due("count pace", Check.BAD, x.count(wrong, 0));
        }
        for (int wrong : new int[] {-1, 4, Integer.MIN_VALUE, Integer.MAX_VALUE}) {
            Check.due("count kind", Check.BAD, x.count(0, wrong));
        }
    }

    private static void gaps() {
        SherdField x = new SherdField();
        x.walk(0, 1);
        Check.due("gap", 0, x.gap());
        x.walk(1, 0);
        Check.due("gap", 2, x.gap());
        x.walk(1, 3);
        Check.due("gap", 2, x.gap());
        Check.due("gaps", 1, x.many(3));
        x.walk(1, 2);
        Check.due("gap", Check.NONE, x.gap());
        Check.due("gaps", 0, x.many(3));
    }

    private static void led() {
        SherdField x = new SherdField();
        x.walk(0, 0);
        x.walk(1, 0);
        x.find(0, 2, 0, 1);
        x.find(1, 2, 1, 5);
        x.find(0, 3, 0, 1);
        x.find(1, 3, 1, 5);
        x.find(1, 2, 3, 5);
        Check.due("led", 1, x.led(2, 0));
        Check.due("led", 4, x.led(2, 1));
        Check.due("led", Check.NONE, x.led(2, 2));
        Check.due("led", Check.NONE, x.led(2, Integer.MAX_VALUE));
        Check.due("led", 3, x.led(3, 0));
        x.find(0, 2, 0, 99);
        Check.due("led, now by the other walk", 0, x.led(2, 0));
        Check.due("led", 5, x.led(2, 1));
        Check.due("led, a pace without finds", Check.NONE, x.led(0, 0));
        Check.due("led, a gap", Check.NONE, x.led(19, 0));
        Check.due("led", Check.BAD, x.led(2, -1));
        Check.due("led", Check.BAD, x.led(2, Integer.MIN_VALUE));
        for (int wrong : new int[] {-1, 20, Integer.MIN_VALUE, Integer.MAX_VALUE}) {
            Check.due("led", Check.BAD, x.led(wrong, 0));
        }
    }

    /** The last walk, the last find and the last pace, where every row is as long as it may be. */
    private static void everythingFull() {
        SherdField x = new SherdField();
        x.field(8, 8);
        for (int walk = 0; walk < 60; walk++) {
            x.walk(walk < 59 ? walk % 4 : 4, 7);
        }
        for (int find = 0; find < 200; find++) {
            x.find(find < 100 ? find % 59 : 59, 56 + find % 8, 3, 1 + find / 100);
        }
        Check.due("its numbers", 200, x.told(59, 3));
        Check.due("it tells", 1, x.told(59, 4));
        Check.due("the last pace", 26, x.count(63, 3));
        Check.due("the last find", 199, x.led(63, 12));
        Check.due("no more", Check.NONE, x.led(63, 13));
        Check.due("pairs", 15, x.pair(0, 4, 0));
        Check.due("seen", 3000, x.pair(0, 4, 2));
        Check.due("eye", 100, x.eye(4));
        Check.due("worth", 78, x.worth(63, 0));
        Check.due("greatest", 53, x.greatest());
        Check.due("heap", x.heap(48, 99), x.heap(56, 99));
        Check.due("mixed", 20, x.mixed(0));
    }

    private static void many() {
        SherdField x = new SherdField();
        x.field(3, 6);
        x.walk(0, 1);
        x.walk(1, 1);
        x.walk(1, 5);
        x.find(0, 3, 0, 9);
        Check.leave(x, "rows 0 to 1");
        Check.leave(x, "rows 0 to 1");
        Check.leave(x, "rows 0 to 1");
        x.withdraw(1);
        x.days(17);
        x.feed(1, 2, 3);
        x.trim(5);
        x.spade(0, 0);
        x.spade(17, 0);
        x.spade(0, 0);
        x.spade(4, 1);
        int[] due = {18, 3, 1, 4, 2, 17, 5, 2};
        for (int what = 0; what < due.length; what++) {
            Check.due("many " + what, due[what], x.many(what));
        }
        for (int wrong : new int[] {-1, 8, Integer.MIN_VALUE, Integer.MAX_VALUE}) {
            Check.due("many", Check.BAD, x.many(wrong));
        }
    }
}
