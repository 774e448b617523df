/** Promises 23 to 28: the tape, leaves, days. */
final class LeaveTest {
    public static void main(String[] args) {
        feeds();
        trims();
        bytesInOrder();
        goodLeaves();
        faults();
        faultsOfEveryStart();
        tapeIsUsedUp();
        full();
        withdrawals();
        lets();
        days();
        Check.end();
    }

    private static void feeds() {
        SherdField x = new SherdField();
        for (int i = 1; i <= 5; i++) {
            Check.due("feed", 12 * i, x.feed(0, -1, Integer.MIN_VALUE));
        }
        Check.due("feed", Check.FULL, x.feed(0, 0, 0));
        Check.due("tape", 60, x.many(6));
        Check.due("trim", 49, x.trim(49));
        Check.due("feed", Check.FULL, x.feed(0, 0, 0));
        Check.due("trim", 48, x.trim(48));
        Check.due("feed", 60, x.feed(0, 0, 0));
    }

    private static void trims() {
        SherdField x = new SherdField();
        Check.due("trim", 0, x.trim(0));
        Check.due("trim", Check.BAD, x.trim(1));
        Check.due("trim", Check.BAD, x.trim(-1));
        x.feed(0, 0, 0);
        Check.due("trim", Check.BAD, x.trim(13));
        Check.due("trim", 12, x.trim(12));
        Check.due("trim", 3, x.trim(3));
        Check.due("trim", Check.BAD, x.trim(4));
        Check.due("tape", 3, x.many(6));
        for (int far : Check.FAR) {
            Check.due("trim", Check.BAD, x.trim(far));
        }
    }

    private static void bytesInOrder() {
        SherdField x = new SherdField();
        x.feed('r' << 24 | 'o' << 16 | 'w' << 8 | 's', ' ' << 24 | '3' << 16 | ' ' << 8 | 't',
            'o' << 24 | ' ' << 16 | '4' << 8 | ' ');
        Check.due("leave", 0, x.leave());
        Check.due("lets", 0, x.lets(0, 3, 0));
        Check.due("lets", 0, x.lets(0, 4, 0));
        Check.due("lets", Check.NONE, x.lets(0, 2, 0));
        Check.due("lets", Check.NONE, x.lets(0, 5, 0));
    }

    private static void goodLeaves() {
        String[] good = {
            "rows 0 to 0", "rows 0 to 7", "rows 7 to 7", "   rows   3 to    4   ",
            "rows 007 to 0000000000000000000000000007", "rows 1 to 2 days 0 to 400",
            "rows 1 to 2 days 400 to 400", "rows 1 to 2 days 0 to 0", "rows 1 to 2 but who 0",
            "rows 1 to 2 but who 4", "rows 1 to 2 but who 0 or 1 or 2 or 3 or 4",
            "rows 1 to 2 days 0 to 400 but who 0 or 1 or 2 or 3 or 4", "rows 1 to 2 days 9 to 99",
            "rows 0 to 7 days 100 to 400 but who 0 or 1 or 2 or 3 or 004",
            " ".repeat(49) + "rows 1 to 2",
        };
        for (String text : good) {
            Check.due("'" + text + "'", 0, Check.leave(new SherdField(), text));
        }
    }

    private static void faults() {
        fault("", 0);
        fault("    ", 4);
        fault(" ".repeat(60), 60);
        fault("rows" + " ".repeat(56), 60);
        fault("r".repeat(60), 0);
        fault("row 1 to 2", 0);
        fault("Rows 1 to 2", 0);
        fault("rowss 1 to 2", 0);
        fault("  rows", 6);
        fault("rows  ", 6);
        fault("rows 8 to 9", 5);
        fault("rows -1 to 9", 5);
        fault("rows +1 to 2", 5);
        fault("rows 1x to 2", 5);
        fault("rows to 2", 5);
        fault("rows 4294967297 to 2", 5);
        fault("rows 18446744073709551617 to 2", 5);
        fault("rows 1 2", 7);
        fault("rows 1 to", 9);
        fault("rows 1 to 0", 10);
        fault("rows 1 to 8", 10);
        fault("rows 1 to 4294967298", 10);
        fault("rows 1 to 2 2", 12);
        fault("rows 1 to 2 day 1 to 2", 12);
        fault("rows 1 to 2 rows 1 to 2", 12);
        fault("rows 1 to 2 or 3", 12);
        fault("rows 1 to 2 who 3", 12);
        fault("rows 1 to 2 days", 16);
        fault("rows 1 to 2 days 401 to 401", 17);
        fault("rows 1 to 2 days x to 401", 17);
        fault("rows 1 to 2 days 5 too 6", 19);
        fault("rows 1 to 2 days 5 to 4", 22);
        fault("rows 1 to 2 days 5 to 401", 22);
        fault("rows 1 to 2 days 5 to ", 22);
        fault("rows 1 to 2 days 5 to 6 days 5 to 6", 24);
        fault("rows 1 to 2 days 5 to 6 or 1", 24);
        fault("rows 1 to 2 but", 15);
        fault("rows 1 to 2 but 3", 16);
        fault("rows 1 to 2 but who", 19);
        fault("rows 1 to 2 but who 5", 20);
        fault("rows 1 to 2 but who or", 20);
        fault("rows 1 to 2 but who 1 2", 22);
        fault("rows 1 to 2 but who 1 or", 24);
        fault("rows 1 to 2 but who 1 or ", 25);
        fault("rows 1 to 2 but who 1 or 1", 25);
        fault("rows 1 to 2 but who 1 or 0", 25);
        fault("rows 1 to 2 but who 4 or 5", 25);
        fault("rows 1 to 2 but who 4 or", 24);
        fault("rows 1 to 2 but who 1 or 2 days 1 to 2", 27);
        fault("rows 1 to 2 but who 0 or 1 or 2 or 3 or 4 or 5", 45);
        fault("rows\t1 to 2", 0);
        fault("rows 1 to 2\n", 10);
        fault("rows 1 to 2" + (char) 0, 10);
        fault("rows 1 to 2 " + (char) 160, 12);
        fault("rows 1 to " + (char) 178, 10);
    }

    private static void fault(String text, int place) {
        SherdField x = new SherdField();
        Check.due("'" + text + "'", -100 - place, Check.leave(x, text));
        Check.due("no leave of '" + text + "'", 0, x.many(4));
        Check.due("tape of '" + text + "'", 0, x.many(6));
        Check.due("walk is let behind '" + text + "'", 0, x.walk(0, 0));
    }

    private static void faultsOfEveryStart() {
        String text = "rows 1 to 2 days 13 to 14 but who 1 or 2";
        for (int n = 0; n <= text.length(); n++) {
            String start = text.substring(0, n);
            boolean stands = n == 11 || n == 12 || n == 25 || n == 26 || n == 35 || n == 36 || n == 40;
            if (stands) {
                Check.due("'" + start + "'", 0, Check.leave(new SherdField(), start));
            } else {
                fault(start, faultOfStart(text, n));
            }
        }
    }

    /** The first byte of a word that is cut short, else the end. */
    private static int faultOfStart(String text, int n) {
        boolean cut = n > 0 && n < text.length() && text.charAt(n - 1) != ' ' && text.charAt(n) != ' ';
        boolean isNumber = cut && Character.isDigit(text.charAt(n - 1));
        if (!cut || (isNumber && n != 24)) {
            return n;
        }
        return text.lastIndexOf(' ', n - 1) + 1;
    }

    private static void tapeIsUsedUp() {
        SherdField x = new SherdField();
        Check.due("leave", 0, Check.leave(x, "rows 1 to 2"));
        Check.due("tape", 0, x.many(6));
        Check.due("nothing is left", -100, x.leave());
        Check.due("fault", -100, Check.leave(x, "nonsense"));
        Check.due("tape", 0, x.many(6));
    }

    private static void full() {
        SherdField x = new SherdField();
        for (int i = 0; i < 12; i++) {
            Check.due("leave", i, Check.leave(x, "rows 0 to 1"));
        }
        Check.due("a thirteenth", Check.FULL, Check.leave(x, "rows 0 to 7"));
        Check.due("tape is used up", 0, x.many(6));
        Check.due("leaves", 12, x.many(4));
        Check.due("a fault stands ahead of FULL", -110, Check.leave(x, "rows 1 to 0"));
        Check.due("withdraw", 1, x.withdraw(11));
        Check.due("withdrawn ones count", Check.FULL, Check.leave(x, "rows 0 to 1"));
        Check.due("what was refused lets nothing", Check.NONE, x.lets(0, 7, 0));
    }

    private static void withdrawals() {
        SherdField x = new SherdField();
        Check.leave(x, "rows 0 to 1");
        Check.leave(x, "rows 0 to 2");
        Check.due("withdraw", Check.BAD, x.withdraw(2));
        Check.due("withdraw", Check.BAD, x.withdraw(-1));
        Check.due("withdraw", Check.BAD, x.withdraw(Integer.MAX_VALUE));
        Check.due("withdraw", Check.BAD, x.withdraw(Integer.MIN_VALUE));
        Check.due("lets", 0, x.lets(0, 0, 0));
        Check.due("withdraw", 1, x.withdraw(0));
        Check.due("again", Check.NO, x.withdraw(0));
        Check.due("lets", 1, x.lets(0, 0, 0));
        Check.due("leaves", 1, x.many(4));
        Check.due("numbers go on", 2, Check.leave(x, "rows 0 to 0"));
        Check.due("withdraw", 1, x.withdraw(1));
        Check.due("lets", 2, x.lets(0, 0, 0));
        Check.due("lets", Check.NONE, x.lets(0, 1, 0));
    }

    private static void lets() {
        SherdField x = new SherdField();
        Check.leave(x, "rows 2 to 4 days 10 to 20 but who 1 or 3");
        Check.leave(x, "rows 3 to 7 but who 0 or 4");
        Check.leave(x, "rows 0 to 0");
        for (int walker = 0; walker < 5; walker++) {
            for (int row = 0; row < 8; row++) {
                for (int day : new int[] {0, 9, 10, 15, 20, 21, 400}) {
                    boolean first = row >= 2 && row <= 4 && day >= 10 && day <= 20 && walker != 1 && walker != 3;
                    boolean second = row >= 3 && walker != 0 && walker != 4;
                    int due = first ? 0 : second ? 1 : row == 0 ? 2 : Check.NONE;
                    Check.due("lets " + walker + " " + row + " " + day, due, x.lets(walker, row, day));
                }
            }
        }
        for (int wrong : new int[] {-1, 5, Integer.MIN_VALUE, Integer.MAX_VALUE}) {
            Check.due("lets walker", Check.BAD, x.lets(wrong, 0, 0));
        }
        for (int wrong : new int[] {-1, 8, Integer.MIN_VALUE, Integer.MAX_VALUE}) {
            Check.due("lets row", Check.BAD, x.lets(0, wrong, 0));
        }
        for (int wrong : new int[] {-1, 401, Integer.MIN_VALUE, Integer.MAX_VALUE}) {
            Check.due("lets day", Check.BAD, x.lets(0, 0, wrong));
        }
    }

    private static void days() {
        SherdField x = new SherdField();
        for (int wrong : new int[] {-1, 0, 61, Integer.MIN_VALUE, Integer.MAX_VALUE}) {
            Check.due("days", Check.BAD, x.days(wrong));
        }
        Check.due("days", 1, x.days(1));
        int today = 1;
        for (int i = 0; i < 6; i++) {
            today += 60;
            Check.due("days", today, x.days(60));
        }
        Check.due("days", Check.BAD, x.days(40));
        Check.due("today", 361, x.many(5));
        Check.due("days", 400, x.days(39));
        Check.due("days", Check.BAD, x.days(1));
        Check.due("today", 400, x.many(5));
    }
}
