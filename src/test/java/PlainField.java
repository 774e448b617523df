import java.util.ArrayList;
import java.util.Arrays;
import java.util.HashSet;
import java.util.List;
import java.util.Set;
import java.util.function.IntPredicate;
import java.util.stream.IntStream;

/**
 * The document written a second time, as near to its words as can be and with no thought of speed,
 * so that random runs of calls have something to be held against.
 */
final class PlainField {
    private static final int BAD = -1000000001, NO = -1000000002, FULL = -1000000003;
    private static final int NONE = -1000000005, NOTHING = -1000000011;
    private static final int INDEX = -1000000013, SIZE = -1000000014;

    private record Walk(int walker, int row, int day) {
    }

    private record Find(int walk, int pace, int kind, int n) {
    }

    private record Leave(int a, int b, int c, int d, Set<Integer> but) {
    }

    private record Word(int place, String text) {
    }

    private static final class Fault extends RuntimeException {
        private static final long serialVersionUID = 1L;
        private final int place;

        Fault(int place) {
            this.place = place;
        }
    }

    private int wide = 5;
    private int high = 4;
    private int today = 0;
    private int seed = 1;
    private int spare = 0;
    private final int[] sortOf = {0, 1, 2, 3};
    private final int[][] profile = new int[3][4];
    private final List<Walk> walks = new ArrayList<>();
    private final List<Find> finds = new ArrayList<>();
    private final Set<Integer> nothingFound = new HashSet<>();
    private final List<Leave> leaves = new ArrayList<>();
    private final Set<Integer> withdrawn = new HashSet<>();
    private final short[][] sheets = new short[2][];
    private final StringBuilder tape = new StringBuilder();

    private static boolean out(int n, int from, int to) {
        return n < from || n > to;
    }

    private boolean noPace(int pace) {
        return out(pace, 0, wide * high - 1);
    }

    // ---- the field, walks

    int field(int newWide, int newHigh) {
        if (out(newWide, 2, 8) || out(newHigh, 2, 8)) {
            return BAD;
        }
        wide = newWide;
        high = newHigh;
        walks.clear();
        finds.clear();
        nothingFound.clear();
        return wide * high;
    }

    int sort(int kind, int sort) {
        if (out(kind, 0, 3) || out(sort, 0, 3)) {
            return BAD;
        }
        int was = sortOf[kind];
        sortOf[kind] = sort;
        return was;
    }

    int isOf(int kind, int sort) {
        if (out(kind, 0, 3) || out(sort, 0, 3)) {
            return BAD;
        }
        List<Integer> all = List.of(List.of(0), List.of(0, 1), List.of(0, 2), List.of(0, 2, 3)).get(sortOf[kind]);
        return all.contains(sort) ? 1 : 0;
    }

    int walk(int walker, int row) {
        if (out(walker, 0, 4) || out(row, 0, high - 1)) {
            return BAD;
        }
        if (!leaves.isEmpty() && lets(walker, row, today) == NONE) {
            return NO;
        }
        if (walks.size() == 60) {
            return FULL;
        }
        walks.add(new Walk(walker, row, today));
        return walks.size() - 1;
    }

    int find(int walk, int pace, int kind, int n) {
        if (out(walk, 0, walks.size() - 1) || out(kind, 0, 3) || out(n, 1, 99) || noPace(pace)) {
            return BAD;
        }
        if (pace / wide != walks.get(walk).row) {
            return BAD;
        }
        if (finds.size() == 200) {
            return FULL;
        }
        finds.add(new Find(walk, pace, kind, n));
        return finds.size() - 1;
    }

    private int sumOfWalk(int walk, IntPredicate kinds) {
        return finds.stream().filter(f -> f.walk == walk && kinds.test(f.kind)).mapToInt(Find::n).sum();
    }

    private int telling(int row) {
        int best = -1;
        for (int walk = walks.size() - 1; walk >= 0; walk--) {
            if (walks.get(walk).row == row
                && (best < 0 || sumOfWalk(walk, k -> true) >= sumOfWalk(best, k -> true))) {
                best = walk;
            }
        }
        return best;
    }

    int told(int walk, int what) {
        if (out(walk, 0, walks.size() - 1) || out(what, 0, 4)) {
            return BAD;
        }
        Walk w = walks.get(walk);
        int own = telling(w.row) == walk ? 1 : 0;
        return new int[] {w.walker, w.row, w.day, sumOfWalk(walk, k -> true), own}[what];
    }

    int of(int find, int what) {
        if (out(find, 0, finds.size() - 1) || out(what, 0, 3)) {
            return BAD;
        }
        Find f = finds.get(find);
        return new int[] {f.walk, f.pace, f.kind, f.n}[what];
    }

    int count(int pace, int kind) {
        if (noPace(pace) || out(kind, 0, 3)) {
            return BAD;
        }
        int telling = telling(pace / wide);
        return finds.stream().filter(f -> f.walk == telling && f.pace == pace && f.kind == kind)
            .mapToInt(Find::n).sum();
    }

    int gap() {
        return IntStream.range(0, high).filter(row -> telling(row) < 0).findFirst().orElse(NONE);
    }

    int led(int pace, int i) {
        if (noPace(pace) || i < 0) {
            return BAD;
        }
        int telling = telling(pace / wide);
        int[] all = IntStream.range(0, finds.size())
            .filter(f -> finds.get(f).walk == telling && finds.get(f).pace == pace).toArray();
        return i < all.length ? all[i] : NONE;
    }

    // ---- eyes, heaps

    private int seenIn(int walk) {
        return sumOfWalk(walk, k -> sortOf[k] != 1);
    }

    private List<int[]> pairsOf(int walker, IntPredicate others) {
        List<int[]> pairs = new ArrayList<>();
        for (int i = 0; i < walks.size(); i++) {
            for (int j = 0; j < walks.size(); j++) {
                Walk a = walks.get(i);
                Walk b = walks.get(j);
                if (a.row == b.row && a.walker == walker && b.walker != walker && others.test(b.walker)) {
                    pairs.add(new int[] {i, j});
                }
            }
        }
        return pairs;
    }

    int pair(int walker, int other, int what) {
        if (out(walker, 0, 4) || out(other, 0, 4) || out(what, 0, 2) || walker == other) {
            return BAD;
        }
        List<int[]> pairs = pairsOf(walker, w -> w == other);
        return what == 0 ? pairs.size() : pairs.stream().mapToInt(p -> seenIn(p[what - 1])).sum();
    }

    int eye(int walker) {
        if (out(walker, 0, 4)) {
            return BAD;
        }
        int[] seen = IntStream.range(0, walks.size()).map(this::seenIn).toArray();
        List<int[]> pairs = pairsOf(walker, w -> true);
        int saw = pairs.stream().mapToInt(p -> seen[p[0]]).sum();
        int better = pairs.stream().mapToInt(p -> Math.max(seen[p[0]], seen[p[1]])).sum();
        return better == 0 ? 100 : 100 * saw / better;
    }

    int corrected(int pace, int kind) {
        if (noPace(pace) || out(kind, 0, 3)) {
            return BAD;
        }
        int count = count(pace, kind);
        if (count == 0 || sortOf[kind] == 1) {
            return count;
        }
        int eye = eye(walks.get(telling(pace / wide)).walker);
        return eye == 0 ? 9999 : Math.min(9999, count * 100 / eye);
    }

    private int plainWorth(int pace) {
        int worth = 0;
        for (int kind = 0; kind < 4; kind++) {
            worth += corrected(pace, kind) * new int[] {1, 1, 2, 3}[sortOf[kind]];
        }
        return nothingFound.contains(pace) ? 0 : worth;
    }

    private int[] worths() {
        return IntStream.range(0, wide * high).map(this::plainWorth).toArray();
    }

    private int[] sums(int[] worths) {
        int[] sums = new int[worths.length];
        for (int p = 0; p < worths.length; p++) {
            for (int q = 0; q < worths.length; q++) {
                boolean near = Math.abs(p / wide - q / wide) <= 1 && Math.abs(p % wide - q % wide) <= 1;
                sums[p] += near ? worths[q] : 0;
            }
        }
        return sums;
    }

    int worth(int pace, int what) {
        if (noPace(pace) || out(what, 0, 1)) {
            return BAD;
        }
        return what == 0 ? plainWorth(pace) : sums(worths())[pace];
    }

    int greatest() {
        int[] sums = sums(worths());
        int most = Arrays.stream(sums).max().getAsInt();
        return IntStream.range(0, sums.length).filter(p -> sums[p] == most).findFirst().getAsInt();
    }

    int heap(int pace, int shuffles) {
        if (noPace(pace) || out(shuffles, 1, 99)) {
            return BAD;
        }
        int[] worths = worths();
        int sum = sums(worths)[pace];
        int[] among = IntStream.range(0, worths.length).filter(p -> telling(p / wide) >= 0).toArray();
        int w = seed;
        int notAbove = 0;
        for (int s = 0; s < shuffles; s++) {
            for (int i = among.length - 1; i >= 1; i--) {
                w = w * 1103515245 + 12345;
                int j = (w >>> 8) % (i + 1);
                int kept = worths[among[i]];
                worths[among[i]] = worths[among[j]];
                worths[among[j]] = kept;
            }
            if (Arrays.stream(sums(worths)).max().getAsInt() >= sum) {
                notAbove++;
            }
        }
        return notAbove > spare ? 0 : 1;
    }

    int spade(int pace, int found) {
        if (noPace(pace) || out(found, 0, 1)) {
            return BAD;
        }
        boolean changed = found == 0 ? nothingFound.add(pace) : nothingFound.remove(pace);
        return changed ? 1 - found : found;
    }

    int rule(int which, int v) {
        if (out(which, 0, 1) || (which == 1 && out(v, 0, 9))) {
            return BAD;
        }
        int was = which == 0 ? seed : spare;
        seed = which == 0 ? v : seed;
        spare = which == 1 ? v : spare;
        return was;
    }

    // ---- plough, periods

    private int[] beside(int pace) {
        return IntStream.range(0, wide * high)
            .filter(q -> Math.abs(pace / wide - q / wide) + Math.abs(pace % wide - q % wide) == 1).toArray();
    }

    int plough(int pace, int n) {
        if (noPace(pace) || out(n, 0, 50)) {
            return BAD;
        }
        if (sheets[0] == null) {
            return NOTHING;
        }
        int[] has = new int[wide * high];
        for (int p = 0; p < has.length; p++) {
            has[p] = p < sheets[0].length && !out(sheets[0][p], 0, 9999) ? sheets[0][p] : 0;
        }
        for (int time = 0; time < n; time++) {
            int[] next = has.clone();
            for (int p = 0; p < has.length; p++) {
                int[] beside = beside(p);
                for (int q : beside) {
                    next[q] += has[p] / 2 / beside.length;
                    next[p] -= has[p] / 2 / beside.length;
                }
            }
            has = next;
        }
        return has[pace];
    }

    int profile(int period, int kind, int v) {
        if (out(period, 0, 2) || out(kind, 0, 3) || out(v, 0, 100)) {
            return BAD;
        }
        int was = profile[period][kind];
        profile[period][kind] = v;
        return was;
    }

    int mixed(int period) {
        if (out(period, 0, 2)) {
            return BAD;
        }
        long[] counted = new long[4];
        for (int kind = 0; kind < 4; kind++) {
            for (int pace = 0; pace < wide * high; pace++) {
                counted[kind] += count(pace, kind);
            }
        }
        int[] best = null;
        long least = 0;
        for (int a = 0; a <= 20; a++) {
            for (int b = 0; a + b <= 20; b++) {
                int[] parts = {a, b, 20 - a - b};
                long sum = 0;
                for (int kind = 0; kind < 4; kind++) {
                    long off = 20 * counted[kind];
                    for (int p = 0; p < 3; p++) {
                        off -= (long) parts[p] * profile[p][kind];
                    }
                    sum += off * off;
                }
                if (best == null || sum <= least) {
                    best = parts;
                    least = sum;
                }
            }
        }
        return best[period];
    }

    // ---- leave, days, sheets

    int feed(int a, int b, int c) {
        if (tape.length() + 12 > 60) {
            return FULL;
        }
        for (int number : new int[] {a, b, c}) {
            for (int i = 3; i >= 0; i--) {
                tape.append((char) (number >> 8 * i & 0xff));
            }
        }
        return tape.length();
    }

    int trim(int n) {
        if (out(n, 0, tape.length())) {
            return BAD;
        }
        tape.setLength(n);
        return n;
    }

    private static List<Word> wordsOf(String text) {
        List<Word> words = new ArrayList<>();
        int place = 0;
        for (String part : text.split(" ", -1)) {
            if (!part.isEmpty()) {
                words.add(new Word(place, part));
            }
            place += part.length() + 1;
        }
        words.add(new Word(text.length(), ""));
        return words;
    }

    private static void must(List<Word> words, String text) {
        if (!words.get(0).text.equals(text)) {
            throw new Fault(words.get(0).place);
        }
        words.remove(0);
    }

    private static int number(List<Word> words, int from, int to) {
        Word word = words.get(0);
        if (!word.text.matches("[0-9]+")) {
            throw new Fault(word.place);
        }
        java.math.BigInteger value = new java.math.BigInteger(word.text);
        if (value.bitLength() > 20 || out(value.intValue(), from, to)) {
            throw new Fault(word.place);
        }
        words.remove(0);
        return value.intValue();
    }

    private static Leave parsed(String text) {
        List<Word> words = wordsOf(text);
        must(words, "rows");
        int a = number(words, 0, 7);
        must(words, "to");
        int b = number(words, a, 7);
        int c = 0;
        int d = 400;
        if (words.get(0).text.equals("days")) {
            words.remove(0);
            c = number(words, 0, 400);
            must(words, "to");
            d = number(words, c, 400);
        }
        Set<Integer> but = new HashSet<>();
        if (words.get(0).text.equals("but")) {
            words.remove(0);
            must(words, "who");
            int w = number(words, 0, 4);
            but.add(w);
            while (words.get(0).text.equals("or")) {
                words.remove(0);
                w = number(words, w + 1, 4);
                but.add(w);
            }
        }
        must(words, "");
        return new Leave(a, b, c, d, but);
    }

    int leave() {
        String text = tape.toString();
        tape.setLength(0);
        try {
            Leave leave = parsed(text);
            if (leaves.size() == 12) {
                return FULL;
            }
            leaves.add(leave);
            return leaves.size() - 1;
        } catch (Fault fault) {
            return -100 - fault.place;
        }
    }

    int withdraw(int leave) {
        if (out(leave, 0, leaves.size() - 1)) {
            return BAD;
        }
        return withdrawn.add(leave) ? 1 : NO;
    }

    int lets(int walker, int row, int day) {
        if (out(walker, 0, 4) || out(row, 0, 7) || out(day, 0, 400)) {
            return BAD;
        }
        for (int i = 0; i < leaves.size(); i++) {
            Leave l = leaves.get(i);
            if (!withdrawn.contains(i) && !out(row, l.a, l.b) && !out(day, l.c, l.d) && !l.but.contains(walker)) {
                return i;
            }
        }
        return NONE;
    }

    int days(int n) {
        if (out(n, 1, 60) || today + n > 400) {
            return BAD;
        }
        today += n;
        return today;
    }

    int sheet(int s, int n) {
        if (out(s, 0, 1) || n > 64) {
            return BAD;
        }
        if (n < 0) {
            return SIZE;
        }
        sheets[s] = new short[n];
        return n;
    }

    int mark(int s, int place, int v) {
        if (out(s, 0, 1)) {
            return BAD;
        }
        if (sheets[s] == null) {
            return NOTHING;
        }
        if (out(place, 0, sheets[s].length - 1)) {
            return INDEX;
        }
        int was = sheets[s][place];
        sheets[s][place] = (short) v;
        return was;
    }

    int copy(int from, int place, int to, int at, int many) {
        if (out(from, 0, 1) || out(to, 0, 1)) {
            return BAD;
        }
        if (sheets[from] == null || sheets[to] == null) {
            return NOTHING;
        }
        try {
            System.arraycopy(sheets[from], place, sheets[to], at, many);
            return many;
        } catch (IndexOutOfBoundsException none) {
            return INDEX;
        }
    }

    int lose(int s) {
        if (out(s, 0, 1)) {
            return BAD;
        }
        if (sheets[s] == null) {
            return NOTHING;
        }
        int had = sheets[s].length;
        sheets[s] = null;
        return had;
    }

    int many(int what) {
        if (out(what, 0, 7)) {
            return BAD;
        }
        int gaps = (int) IntStream.range(0, high).filter(row -> telling(row) < 0).count();
        return new int[] {wide * high, walks.size(), finds.size(), gaps, leaves.size() - withdrawn.size(),
            today, tape.length(), nothingFound.size()}[what];
    }
}
