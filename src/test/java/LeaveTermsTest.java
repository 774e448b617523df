/** Part 5 of the terms, without SHEETS: THE TAPE, the texts of LEAVES and their FAULTS, what they let. */
final class LeaveTermsTest {
    private static final int STANDS = -1;

    public static void main(String[] args) {
        tapeOf60Bytes();
        usedUpWhateverItAnswers();
        blanks();
        rowsInBounds();
        daysInBounds();
        walkersInBounds();
        numbersAreDigitsAlone();
        wordsUpToTheNextBlank();
        wordsInTheirPlaces();
        theEndTooSoon();
        theFirstFault();
        textOf60Bytes();
        rowsThatAreLet();
        daysThatAreLet();
        walkersThatAreLet();
        walksOnTheirDays();
        twelveLeaves();
        withdrawnOnes();
        always();
        Check.end();
    }

    /** Where the fault of a text is due, or STANDS. */
    private static void text(String text, int fault) {
        SherdField x = new SherdField();
        int due = fault == STANDS ? 0 : -100 - fault;
        Check.due("'" + text + "'", due, Check.leave(x, text));
        Check.due("leaves of '" + text + "'", fault == STANDS ? 1 : 0, x.many(4));
        Check.due("tape of '" + text + "'", 0, x.many(6));
    }

    private static SherdField withLeaves(String... texts) {
        SherdField x = new SherdField();
        x.field(2, 8);
        for (String text : texts) {
            Check.leave(x, text);
        }
        return x;
    }

    /** "THE TAPE (60 bytes at most ..)" */
    private static void tapeOf60Bytes() {
        for (int bytes = 0; bytes <= 60; bytes++) {
            SherdField x = new SherdField();
            Check.lay(x, " ".repeat(bytes));
            Check.due("bytes", bytes, x.many(6));
            Check.due("feed to " + bytes, bytes <= 48 ? bytes + 12 : Check.FULL, x.feed(-1, -1, -1));
            Check.due("bytes", bytes <= 48 ? bytes + 12 : bytes, x.many(6));
            Check.due("what was there stays", -100 - bytes, x.leave());
        }
    }

    /** "an act that reads it uses it up, whatever it answers" */
    private static void usedUpWhateverItAnswers() {
        SherdField x = new SherdField();
        Check.due("a fault", -100, Check.leave(x, "row 1 to 2"));
        Check.due("used up", 0, x.many(6));
        for (int i = 0; i < 12; i++) {
            Check.due("a leave", i, Check.leave(x, "rows 1 to 2"));
            Check.due("used up", 0, x.many(6));
        }
        Check.due("full", Check.FULL, Check.leave(x, "rows 1 to 2"));
        Check.due("used up", 0, x.many(6));
        Check.due("an empty tape", -100, x.leave());
        Check.due("used up", 0, x.many(6));
        Check.due("no byte can be kept", Check.BAD, x.trim(1));
    }

    /** "with blanks (byte 32) between, one or more, none needed at the ends" */
    private static void blanks() {
        text("rows 1 to 2", STANDS);
        text(" rows 1 to 2", STANDS);
        text("rows 1 to 2 ", STANDS);
        text("  rows  1  to  2  days  3  to  4  but  who  0  or  1  ", STANDS);
        text("rows1 to 2", 0);
        text("rows 1to 2", 5);
        text("rows 1 to2", 7);
        text("rows 1 to 2days 3 to 4", 10);
        text("rows 1 to 2 days3 to 4", 12);
        text("rows 1 to 2 days 3to 4", 17);
        text("rows 1 to 2 days 3 to4", 19);
        text("rows 1 to 2 days 3 to 4but who 0", 22);
        text("rows 1 to 2 butwho 0", 12);
        text("rows 1 to 2 but who0", 16);
        text("rows 1 to 2 but who 0or 1", 20);
        text("rows 1 to 2 but who 0 or1", 22);
        for (int sign = 0; sign < 256; sign++) {
            text("rows" + (char) sign + "1 to 2", sign == 32 ? STANDS : 0);
            text("rows 1 to 2" + (char) sign, sign == 32 ? STANDS : 10);
            text((char) sign + "rows 1 to 2", sign == 32 ? STANDS : 0);
        }
    }

    /** "A 0 .. 7, B not below A and 7 at most" */
    private static void rowsInBounds() {
        for (int a = 0; a <= 9; a++) {
            for (int b = 0; b <= 9; b++) {
                int fault = a > 7 ? 5 : b < a || b > 7 ? 10 : STANDS;
                text("rows " + a + " to " + b, fault);
            }
        }
        text("rows -1 to 2", 5);
        text("rows 1 to -2", 10);
        text("rows 10 to 11", 5);
        text("rows 1 to 10", 10);
    }

    /** "C 0 .. 400, D not below C and 400 at most" */
    private static void daysInBounds() {
        String rows = "rows 1 to 2 days ";
        text(rows + "0 to 0", STANDS);
        text(rows + "0 to 400", STANDS);
        text(rows + "400 to 400", STANDS);
        text(rows + "401 to 401", 17);
        text(rows + "-1 to 1", 17);
        text(rows + "400 to 399", 24);
        text(rows + "400 to 401", 24);
        text(rows + "0 to 401", 22);
        text(rows + "1 to 0", 22);
        text(rows + "9 to 10", STANDS);
        text(rows + "10 to 9", 23);
        text(rows + "99 to 100", STANDS);
        text(rows + "100 to 99", 24);
        text(rows + "0 to 1000", 22);
        text(rows + "1000 to 1000", 17);
    }

    /** "W 0 .. 4 (each above the one ahead)" */
    private static void walkersInBounds() {
        String but = "rows 1 to 2 but who ";
        for (int w = 0; w <= 9; w++) {
            text(but + w, w <= 4 ? STANDS : 20);
            for (int next = 0; next <= 9; next++) {
                int fault = w > 4 ? 20 : next <= w || next > 4 ? 25 : STANDS;
                text(but + w + " or " + next, fault);
            }
        }
        text(but + "0 or 1 or 2 or 3 or 4", STANDS);
        text(but + "0 or 1 or 2 or 3 or 5", 40);
        text(but + "0 or 1 or 2 or 3 or 3", 40);
        text(but + "0 or 1 or 2 or 4 or 3", 40);
        text(but + "0 or 1 or 2 or 3 or 4 or 4", 45);
        text(but + "0 or 2 or 1", 30);
        text(but + "0 or 2 or 0", 30);
        text(but + "-1", 20);
        text(but + "10", 20);
    }

    /** "NUMBERS (digits alone)" */
    private static void numbersAreDigitsAlone() {
        for (int sign = 33; sign < 256; sign++) {
            boolean digit = sign >= '0' && sign <= '7';
            text("rows " + (char) sign + " to 7", digit ? STANDS : 5);
            text("rows 0 to " + (char) sign, digit ? STANDS : 10);
            text("rows 0 to 0" + (char) sign, digit ? STANDS : 10);
            // A sign just beside the digits would be a day in bounds, if it were taken for one.
            boolean day = sign >= '0' && sign <= '9';
            text("rows 0 to 7 days " + (char) sign + " to 400", day ? STANDS : 17);
            text("rows 0 to 7 days 1" + (char) sign + " to 400", day ? STANDS : 17);
            text("rows 0 to 7 days 0 to " + (char) sign, day ? STANDS : 22);
        }
        text("rows +1 to 2", 5);
        text("rows 1. to 2", 5);
        text("rows 0x1 to 2", 5);
        text("rows 01 to 002", STANDS);
        text("rows 1 to 00000000000000000000000000000000000000000000000008", 10);
        text("rows 1 to 00000000000000000000000000000000000000000000000007", STANDS);
        text("rows 4294967296 to 7", 5);
        text("rows 4294967297 to 7", 5);
        text("rows 2147483648 to 7", 5);
        text("rows 18446744073709551616 to 7", 5);
        text("rows 1 to 4294967298", 10);
        text("rows 1 to 18446744073709551618", 10);
        text("rows 1 to 2 days 4294967296 to 7", 17);
        text("rows 1 to 2 but who 4294967296", 20);
    }

    /** "a WORD is all bytes up to the next blank": no less, and no more. */
    private static void wordsUpToTheNextBlank() {
        String[] words = {"rows", "1", "to", "2", "days", "3", "to", "4", "but", "who", "0", "or", "1"};
        for (int i = 0; i < words.length; i++) {
            for (String wrong : new String[] {words[i] + "x", "x" + words[i], words[i].toUpperCase() + "S"}) {
                StringBuilder text = new StringBuilder();
                int place = 0;
                for (int j = 0; j < words.length; j++) {
                    place = i == j ? text.length() : place;
                    text.append(i == j ? wrong : words[j]).append(' ');
                }
                text(text.toString(), place);
            }
        }
        text("row 1 to 2", 0);
        text("ROWS 1 to 2", 0);
        text("rows 1 t 2", 7);
        text("rows 1 to 2 day 3 to 4", 12);
        text("rows 1 to 2 bu who 0", 12);
        text("rows 1 to 2 but wh 0", 16);
        text("rows 1 to 2 but who 0 o 1", 22);
    }

    /** "what can't stand where it is" */
    private static void wordsInTheirPlaces() {
        String[] words = {"rows", "to", "days", "but", "who", "or", "2", "x"};
        for (String word : words) {
            text(word + " 1 to 2", word.equals("rows") ? STANDS : 0);
            text("rows " + word + " to 2", word.equals("2") ? STANDS : 5);
            text("rows 1 " + word + " 2", word.equals("to") ? STANDS : 7);
            text("rows 1 to " + word, word.equals("2") ? STANDS : 10);
            text("rows 1 to 2 " + word + " 3 to 4", word.equals("days") ? STANDS : word.equals("but") ? 16 : 12);
            text("rows 1 to 2 days " + word + " to 4", word.equals("2") ? STANDS : 17);
            text("rows 1 to 2 days 1 " + word + " 4", word.equals("to") ? STANDS : 19);
            text("rows 1 to 2 days 1 to " + word, word.equals("2") ? STANDS : 22);
            text("rows 1 to 2 days 1 to 4 " + word + " who 3", word.equals("but") ? STANDS : 24);
            text("rows 1 to 2 but " + word + " 3", word.equals("who") ? STANDS : 16);
            text("rows 1 to 2 but who " + word, word.equals("2") ? STANDS : 20);
            text("rows 1 to 2 but who 1 " + word + " 3", word.equals("or") ? STANDS : 22);
            text("rows 1 to 2 but who 1 or " + word, word.equals("2") ? STANDS : 25);
            text("rows 1 to 2 but who 1 or 2 " + word + " 3", word.equals("or") ? STANDS : 27);
        }
        text("rows 1 to 2 but who 0 days 3 to 4", 22);
        text("rows 1 to 2 days 3 to 4 days 3 to 4", 24);
        text("rows 1 to 2 but who 0 but who 1", 22);
    }

    /** "the end, if it comes too soon (the place behind the last byte on THE TAPE)" */
    private static void theEndTooSoon() {
        String[] starts = {"", "rows", "rows 1", "rows 1 to", "rows 1 to 2 days", "rows 1 to 2 days 3",
            "rows 1 to 2 days 3 to", "rows 1 to 2 but", "rows 1 to 2 but who", "rows 1 to 2 but who 0 or",
            "rows 1 to 2 days 3 to 4 but", "rows 1 to 2 days 3 to 4 but who", "rows 1 to 2 but who 4 or"};
        for (String start : starts) {
            for (int more = 0; start.length() + more <= 60; more++) {
                text(start + " ".repeat(more), start.length() + more);
            }
        }
    }

    /** "The first one is told." */
    private static void theFirstFault() {
        text("row 9 ta 9", 0);
        text("rows 9 ta 9", 5);
        text("rows 1 ta 9", 7);
        text("rows 1 to 9 x", 10);
        text("rows 1 to 2 x 9", 12);
        text("rows 1 to 2 days 9 to 8 but who 9", 22);
        text("rows 1 to 2 but who 9 or 9", 20);
        text("rows 1 to 2 but who 3 or 2 or", 25);
        text("rows 3 to", 9);
    }

    private static void textOf60Bytes() {
        text("rows 1 to 2 days 300 to 400 but who 0 or 1 or 2 or 3 or 0004", STANDS);
        text("rows 1 to 2 days 300 to 400 but who 0 or 1 or 2 or 3 or 0005", 56);
        text("rows 1 to 2 days 300 to 400 but who 0 or 1 or 2 or 3   or  4", STANDS);
        text("rows 1 to 2 days 300 to 400 but who 0 or 1 or 2 or 3      or", 60);
        text("rows 1 to 2 days 300 to 400 but who 0 or 1 or 2 or 3 or 4  x", 59);
    }

    /** "It lets these rows be walked": also rows beyond THE FIELD are told. */
    private static void rowsThatAreLet() {
        for (int a = 0; a < 8; a++) {
            for (int b = a; b < 8; b++) {
                SherdField x = withLeaves("rows " + a + " to " + b);
                x.field(2, 2);
                for (int row = 0; row < 8; row++) {
                    boolean let = row >= a && row <= b;
                    Check.due("lets row " + row, let ? 0 : Check.NONE, x.lets(0, row, 0));
                    Check.due("walk of row " + row, row > 1 ? Check.BAD : let ? row - a : Check.NO,
                        x.walk(0, row));
                }
            }
        }
    }

    /** "on these DAYS (on all, if not told)" */
    private static void daysThatAreLet() {
        SherdField x = withLeaves("rows 0 to 7 days 10 to 20");
        Check.due("the day ahead", Check.NONE, x.lets(0, 0, 9));
        Check.due("the first day", 0, x.lets(0, 0, 10));
        Check.due("the last day", 0, x.lets(0, 0, 20));
        Check.due("the day behind", Check.NONE, x.lets(0, 0, 21));
        SherdField one = withLeaves("rows 0 to 7 days 400 to 400");
        Check.due("the day ahead", Check.NONE, one.lets(0, 0, 399));
        Check.due("the only day", 0, one.lets(0, 0, 400));
        SherdField first = withLeaves("rows 0 to 7 days 0 to 0");
        Check.due("the only day", 0, first.lets(0, 0, 0));
        Check.due("the day behind", Check.NONE, first.lets(0, 0, 1));
        for (String text : new String[] {"rows 0 to 7", "rows 0 to 7 but who 4", "rows 0 to 7 days 0 to 400"}) {
            SherdField all = withLeaves(text);
            Check.due("the first of all days", 0, all.lets(0, 0, 0));
            Check.due("the last of all days", 0, all.lets(0, 0, 400));
        }
    }

    /** "by all WALKERS but those" */
    private static void walkersThatAreLet() {
        String[] buts = {"", " but who 0", " but who 4", " but who 0 or 4", " but who 1 or 2 or 3",
            " but who 0 or 1 or 2 or 3 or 4"};
        String[] let = {"01234", "1234", "0123", "123", "04", ""};
        for (int i = 0; i < buts.length; i++) {
            SherdField x = withLeaves("rows 0 to 7" + buts[i]);
            int walks = 0;
            for (int walker = 0; walker < 5; walker++) {
                boolean is = let[i].indexOf('0' + walker) >= 0;
                Check.due("lets " + walker + buts[i], is ? 0 : Check.NONE, x.lets(walker, 7, 200));
                Check.due("walk of " + walker + buts[i], is ? walks : Check.NO, x.walk(walker, 7));
                walks += is ? 1 : 0;
            }
        }
    }

    /** A WALK is on TODAY, so days that go open a LEAVE and close it. */
    private static void walksOnTheirDays() {
        SherdField x = withLeaves("rows 0 to 7 days 2 to 3", "rows 1 to 1 days 400 to 400");
        int[] due = {Check.NO, Check.NO, 0, 1, Check.NO};
        for (int day = 0; day < 5; day++) {
            Check.due("walk on day " + day, due[day], x.walk(0, 1));
            Check.due("the next day", day + 1, x.days(1));
        }
        Check.due("its day", 2, x.told(0, 2));
        Check.due("its day", 3, x.told(1, 2));
        for (int day = 5; day < 365; day += 60) {
            x.days(60);
        }
        Check.due("day 399", 399, x.days(34));
        Check.due("walk on day 399", Check.NO, x.walk(0, 1));
        Check.due("day 400", 400, x.days(1));
        Check.due("walk on day 400", 2, x.walk(0, 1));
        Check.due("its day", 400, x.told(2, 2));
        Check.due("a row that is not let", Check.NO, x.walk(0, 2));
    }

    /** "LEAVES, 12 at most, numbered from 0" */
    private static void twelveLeaves() {
        SherdField x = new SherdField();
        for (int i = 0; i < 12; i++) {
            Check.due("leave", i, Check.leave(x, "rows 7 to 7 days " + i + " to " + i));
        }
        Check.due("one more", Check.FULL, Check.leave(x, "rows 7 to 7 days 12 to 12"));
        Check.due("a fault is told ahead of FULL", -117, Check.leave(x, "rows 7 to 7 days 401 to 401"));
        for (int i = 0; i < 12; i++) {
            Check.due("lets", i, x.lets(0, 7, i));
        }
        Check.due("what was refused lets nothing", Check.NONE, x.lets(0, 7, 12));
        Check.due("withdraw the last", 1, x.withdraw(11));
        Check.due("its number is not free", Check.FULL, Check.leave(x, "rows 7 to 7"));
        x.field(8, 8);
        Check.due("a new field frees none", Check.FULL, Check.leave(x, "rows 7 to 7"));
        Check.due("leaves", 11, x.many(4));
    }

    /** "A WALK is let if some LEAVE that is not WITHDRAWN lets it" */
    private static void withdrawnOnes() {
        SherdField x = withLeaves("rows 0 to 1", "rows 1 to 2");
        Check.due("the first", 0, x.lets(0, 1, 0));
        Check.due("withdraw", 1, x.withdraw(0));
        Check.due("the next", 1, x.lets(0, 1, 0));
        Check.due("none", Check.NONE, x.lets(0, 0, 0));
        Check.due("a walk that one lets", 0, x.walk(0, 1));
        Check.due("a walk that none lets", Check.NO, x.walk(0, 0));
        Check.due("again", Check.NO, x.withdraw(0));
        Check.due("withdraw", 1, x.withdraw(1));
        Check.due("none", Check.NONE, x.lets(0, 1, 0));
        Check.due("a walk that none lets", Check.NO, x.walk(0, 1));
        Check.due("leaves", 0, x.many(4));
    }

    /** "(if there never was one: always)" */
    private static void always() {
        SherdField x = new SherdField();
        Check.due("a fault", -105, Check.leave(x, "rows 8 to 8"));
        Check.due("is no leave", 0, x.walk(4, 3));
        Check.due("nor is one told", Check.NONE, x.lets(4, 3, 0));
        Check.due("one that lets nobody", 0, Check.leave(x, "rows 0 to 7 but who 0 or 1 or 2 or 3 or 4"));
        Check.due("there is one", Check.NO, x.walk(4, 3));
        Check.due("withdraw", 1, x.withdraw(0));
        Check.due("there was one", Check.NO, x.walk(4, 3));
        x.field(5, 4);
        Check.due("there was one, also in a new field", Check.NO, x.walk(4, 3));
    }
}
