import java.util.List;
import java.util.function.Supplier;
import java.util.function.ToIntFunction;

/** Counts answers that are not as due, prints each, and ends a test's main method. */
final class Check {
    static final int BAD = -1000000001;
    static final int NO = -1000000002;
    static final int FULL = -1000000003;
    static final int NONE = -1000000005;
    static final int NOTHING = -1000000011;
    static final int INDEX = -1000000013;
    static final int SIZE = -1000000014;
    /** Numbers that are wrong, or at an edge, for most arguments. */
    static final int[] FAR = {Integer.MIN_VALUE, -1000, -1, 1000, 65536, Integer.MAX_VALUE};

    private static int asked = 0;
    private static int wrong = 0;

    private Check() {
    }

    static void due(String what, int want, int got) {
        asked++;
        if (want != got) {
            wrong++;
            System.out.println(what + ": answered " + got + ", due is " + want);
        }
    }

    /** Lays a text on the tape, and trims it to its length. */
    static void lay(SherdField field, String text) {
        field.trim(0);
        for (int at = 0; at < text.length(); at += 12) {
            int[] n = new int[3];
            for (int i = 0; i < 12; i++) {
                int sign = at + i < text.length() ? text.charAt(at + i) : 0;
                n[i / 4] = n[i / 4] << 8 | sign;
            }
            field.feed(n[0], n[1], n[2]);
        }
        due("trim to '" + text + "'", text.length(), field.trim(text.length()));
    }

    static int leave(SherdField field, String text) {
        lay(field, text);
        return field.leave();
    }

    /** The call answers want, and leaves all as it was. */
    static void refused(String what, int want, Supplier<SherdField> make, ToIntFunction<SherdField> call) {
        due(what, want, call.applyAsInt(make.get()));
        same("behind refused " + what, State.of(make), State.of(() -> {
            SherdField x = make.get();
            call.applyAsInt(x);
            return x;
        }));
    }

    /** Prints the first row that is not the one that is due. */
    static void same(String what, List<String> want, List<String> got) {
        asked++;
        int row = 0;
        while (row < want.size() && row < got.size() && want.get(row).equals(got.get(row))) {
            row++;
        }
        if (row < want.size() || row < got.size()) {
            wrong++;
            System.out.println(what + ": has " + rowOf(got, row) + ", due is " + rowOf(want, row));
        }
    }

    private static String rowOf(List<String> rows, int row) {
        return row < rows.size() ? rows.get(row) : "no row more";
    }

    static void end() {
        System.out.println(asked + " answers asked, " + wrong + " wrong");
        if (wrong != 0) {
            System.exit(1);
        }
    }
}
