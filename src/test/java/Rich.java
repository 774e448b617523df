/**
 * Objects in which every part of the state has something to lose, so that a refused call that
 * changes something can be seen. Each takes some 250 calls to make at most.
 */
final class Rich {
    /** What lies on the tape: a leave with all its parts. */
    static final String TEXT = "rows 5 to 6 days 1 to 3 but who 1 or 3";

    private Rich() {
    }

    /** Four by three paces on day 3; row 2 is a gap; the walks of row 0 are a pair. */
    static SherdField field() {
        SherdField x = unwalked();
        walkAll(x);
        return x;
    }

    static void walkAll(SherdField x) {
        x.walk(0, 0);
        x.walk(1, 0);
        x.walk(2, 1);
        x.find(0, 1, 0, 5);
        x.find(1, 1, 3, 4);
        x.find(1, 3, 1, 9);
        x.find(2, 4, 2, 7);
        x.find(2, 7, 0, 2);
        x.find(1, 1, 3, 1);
        x.spade(7, 0);
    }

    /** As field(), but nobody walked it, and no spade was put in it. */
    static SherdField unwalked() {
        SherdField x = new SherdField();
        x.field(4, 3);
        Check.leave(x, "rows 0 to 2 days 0 to 100 but who 4");
        Check.leave(x, "rows 1 to 7");
        x.withdraw(1);
        x.days(3);
        x.sort(2, 3);
        x.rule(0, 77);
        x.rule(1, 2);
        x.profile(0, 0, 10);
        x.profile(1, 1, 20);
        x.profile(2, 3, 30);
        x.sheet(0, 6);
        x.mark(0, 0, 100);
        x.mark(0, 2, 8);
        x.mark(0, 4, 9999);
        x.mark(0, 5, -5);
        x.sheet(1, 3);
        x.mark(1, 0, 7);
        x.mark(1, 1, 8);
        x.mark(1, 2, 9);
        Check.lay(x, TEXT);
        return x;
    }

    static SherdField withoutSheet(int s) {
        SherdField x = field();
        x.lose(s);
        return x;
    }

    static SherdField fullOfWalks() {
        SherdField x = field();
        for (int walk = 3; walk < 60; walk++) {
            x.walk(walk % 4, walk % 2);
        }
        return x;
    }

    static SherdField fullOfFinds() {
        SherdField x = field();
        for (int find = 6; find < 200; find++) {
            x.find(2, 4 + find % 4, find % 4, 1);
        }
        return x;
    }

    static SherdField fullOfLeaves() {
        SherdField x = field();
        for (int leave = 2; leave < 12; leave++) {
            Check.leave(x, "rows 7 to 7");
        }
        Check.lay(x, TEXT);
        return x;
    }

    /** The tape has as many bytes as told, all of them needed or blanks. */
    static SherdField withBytes(int bytes) {
        SherdField x = field();
        Check.lay(x, TEXT + " ".repeat(bytes - TEXT.length()));
        return x;
    }
}
