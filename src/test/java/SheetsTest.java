/** Promises 29 to 32: sheets. */
final class SheetsTest {
    public static void main(String[] args) {
        sheets();
        marks();
        copies();
        copiesWithinOne();
        wrongCopies();
        lost();
        Check.end();
    }

    private static void sheets() {
        SherdField x = new SherdField();
        for (int s = 0; s < 2; s++) {
            Check.due("sheet", 0, x.sheet(s, 0));
            Check.due("sheet", 64, x.sheet(s, 64));
            Check.due("sheet", Check.BAD, x.sheet(s, 65));
            Check.due("sheet", Check.BAD, x.sheet(s, Integer.MAX_VALUE));
            Check.due("sheet", Check.SIZE, x.sheet(s, -1));
            Check.due("sheet", Check.SIZE, x.sheet(s, Integer.MIN_VALUE));
            Check.due("a refused one changes nothing", 64, x.lose(s));
        }
        for (int wrong : new int[] {-1, 2, Integer.MIN_VALUE, Integer.MAX_VALUE}) {
            Check.due("sheet", Check.BAD, x.sheet(wrong, 1));
            Check.due("BAD ahead of SIZE", Check.BAD, x.sheet(wrong, -1));
        }
        x.sheet(0, 3);
        x.mark(0, 2, 8);
        x.sheet(0, 3);
        Check.due("all 0 again", 0, x.mark(0, 2, 9));
        x.sheet(0, 1);
        x.sheet(0, 3);
        Check.due("all 0 again", 0, x.mark(0, 2, 9));
        x.lose(0);
        x.sheet(0, 3);
        Check.due("all 0 again", 0, x.mark(0, 2, 9));
    }

    private static void marks() {
        SherdField x = new SherdField();
        Check.due("mark", Check.NOTHING, x.mark(1, 0, 1));
        Check.due("NOTHING ahead of INDEX", Check.NOTHING, x.mark(1, -1, 1));
        x.sheet(1, 3);
        Check.due("mark", 0, x.mark(1, 2, 32767));
        Check.due("mark", 32767, x.mark(1, 2, 32768));
        Check.due("mark", -32768, x.mark(1, 2, 65535));
        Check.due("mark", -1, x.mark(1, 2, 65536));
        Check.due("mark", 0, x.mark(1, 2, Integer.MIN_VALUE + 5));
        Check.due("mark", 5, x.mark(1, 2, 0));
        for (int wrong : new int[] {-1, 3, Integer.MIN_VALUE, Integer.MAX_VALUE}) {
            Check.due("mark place", Check.INDEX, x.mark(1, wrong, 1));
        }
        for (int wrong : new int[] {-1, 2, Integer.MIN_VALUE, Integer.MAX_VALUE}) {
            Check.due("BAD ahead of all", Check.BAD, x.mark(wrong, 9, 1));
        }
        Check.due("the other sheet", Check.NOTHING, x.mark(0, 0, 1));
        x.sheet(0, 0);
        Check.due("no places", Check.INDEX, x.mark(0, 0, 1));
    }

    private static void copies() {
        SherdField x = new SherdField();
        x.sheet(0, 6);
        x.sheet(1, 4);
        for (int place = 0; place < 6; place++) {
            x.mark(0, place, 10 + place);
        }
        Check.due("copy", 3, x.copy(0, 3, 1, 1, 3));
        int[] due = {0, 13, 14, 15};
        for (int place = 0; place < 4; place++) {
            Check.due("copied", due[place], x.mark(1, place, 20 + place));
        }
        Check.due("the other way", 2, x.copy(1, 2, 0, 0, 2));
        int[] back = {22, 23, 12, 13, 14, 15};
        for (int place = 0; place < 6; place++) {
            Check.due("copied back", back[place], x.mark(0, place, 0));
        }
        Check.due("none", 0, x.copy(0, 0, 1, 0, 0));
        Check.due("none behind the last", 0, x.copy(0, 6, 1, 4, 0));
    }

    private static void copiesWithinOne() {
        for (int shift = -2; shift <= 2; shift++) {
            SherdField x = new SherdField();
            x.sheet(0, 8);
            for (int place = 0; place < 8; place++) {
                x.mark(0, place, place);
            }
            Check.due("copy", 4, x.copy(0, 2, 0, 2 + shift, 4));
            for (int place = 0; place < 8; place++) {
                boolean moved = place >= 2 + shift && place < 6 + shift;
                Check.due("as they were", moved ? place - shift : place, x.mark(0, place, 0));
            }
        }
    }

    private static void wrongCopies() {
        SherdField x = new SherdField();
        x.sheet(0, 6);
        Check.due("a missing one", Check.NOTHING, x.copy(0, 0, 1, 0, 1));
        Check.due("a missing one", Check.NOTHING, x.copy(1, 0, 0, 0, 1));
        Check.due("NOTHING ahead of INDEX", Check.NOTHING, x.copy(1, -1, 0, 0, 1));
        x.sheet(1, 4);
        for (int wrong : new int[] {-1, 2, Integer.MIN_VALUE, Integer.MAX_VALUE}) {
            Check.due("BAD", Check.BAD, x.copy(wrong, 0, 0, 0, 1));
            Check.due("BAD ahead of INDEX", Check.BAD, x.copy(0, -1, wrong, 0, 1));
        }
        for (int wrong : new int[] {-1, 6, 7, Integer.MIN_VALUE, Integer.MAX_VALUE}) {
            Check.due("place", Check.INDEX, x.copy(0, wrong, 1, 0, 1));
        }
        for (int wrong : new int[] {-1, 4, 5, Integer.MIN_VALUE, Integer.MAX_VALUE}) {
            Check.due("at", Check.INDEX, x.copy(0, 0, 1, wrong, 1));
        }
        for (int wrong : new int[] {-1, 5, 7, Integer.MIN_VALUE, Integer.MAX_VALUE}) {
            Check.due("many", Check.INDEX, x.copy(0, 0, 1, 0, wrong));
        }
        Check.due("none, but too far", Check.INDEX, x.copy(0, 7, 1, 0, 0));
        Check.due("wraps", Check.INDEX, x.copy(0, Integer.MAX_VALUE, 1, 0, Integer.MAX_VALUE));
        Check.due("wraps", Check.INDEX, x.copy(0, 2, 1, 2, Integer.MAX_VALUE));
    }

    private static void lost() {
        SherdField x = new SherdField();
        Check.due("lose", Check.NOTHING, x.lose(1));
        x.sheet(1, 0);
        Check.due("lose", 0, x.lose(1));
        Check.due("lose", Check.NOTHING, x.lose(1));
        x.sheet(0, 7);
        Check.due("lose", Check.NOTHING, x.lose(1));
        Check.due("lose", 7, x.lose(0));
        Check.due("mark", Check.NOTHING, x.mark(0, 0, 0));
        for (int wrong : new int[] {-1, 2, Integer.MIN_VALUE, Integer.MAX_VALUE}) {
            Check.due("lose", Check.BAD, x.lose(wrong));
        }
    }
}
