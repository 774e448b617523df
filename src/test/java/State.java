import java.util.ArrayList;
import java.util.List;
import java.util.function.Supplier;
import java.util.function.ToIntFunction;

/**
 * All that can be asked of an object, one row for each answer, so that two objects can be held
 * against one another. Each part is asked of an object made anew: nothing is promised about an
 * object behind its 512th call, and some answers can be had only by a call that changes something.
 */
final class State {
    /** Leaves room for some 300 calls that made the object. */
    private static final int QUESTIONS_OF_ONE = 200;
    private static final int[] DAYS = {0, 1, 3, 4, 20, 21, 100, 101, 400};

    private record Question(String name, ToIntFunction<SherdField> call) {
    }

    private State() {
    }

    static List<String> of(Supplier<SherdField> make) {
        List<String> rows = new ArrayList<>();
        ask(make, harmless(make.get()), rows);
        ask(make, letting(), rows);
        ask(make, replacing(), rows);
        ask(make, ofSheet(0), rows);
        ask(make, ofSheet(1), rows);
        List<Question> ofTape = new ArrayList<>();
        ofTape.add(new Question("leave", x -> x.leave()));
        ofTape.addAll(letting().subList(0, QUESTIONS_OF_ONE - 1));
        ask(make, ofTape, rows);
        return rows;
    }

    private static void ask(Supplier<SherdField> make, List<Question> questions, List<String> rows) {
        SherdField x = null;
        for (int i = 0; i < questions.size(); i++) {
            if (i % QUESTIONS_OF_ONE == 0) {
                x = make.get();
            }
            Question question = questions.get(i);
            rows.add(question.name + " = " + question.call.applyAsInt(x));
        }
    }

    private static List<Question> harmless(SherdField like) {
        List<Question> all = new ArrayList<>();
        for (int what = 0; what < 8; what++) {
            int w = what;
            all.add(new Question("many " + w, x -> x.many(w)));
        }
        all.add(new Question("gap", x -> x.gap()));
        all.add(new Question("greatest", x -> x.greatest()));
        addPaces(all, like.many(0));
        addWalks(all, like.many(1));
        addFinds(all, like.many(2));
        addWalkers(all);
        for (int kind = 0; kind < 4; kind++) {
            for (int sort = 0; sort < 4; sort++) {
                int k = kind;
                int s = sort;
                all.add(new Question("isOf " + k + " " + s, x -> x.isOf(k, s)));
            }
        }
        for (int period = 0; period < 3; period++) {
            int p = period;
            all.add(new Question("mixed " + p, x -> x.mixed(p)));
        }
        return all;
    }

    private static void addPaces(List<Question> all, int paces) {
        for (int pace = 0; pace < paces; pace++) {
            int p = pace;
            for (int kind = 0; kind < 4; kind++) {
                int k = kind;
                all.add(new Question("count " + p + " " + k, x -> x.count(p, k)));
                all.add(new Question("corrected " + p + " " + k, x -> x.corrected(p, k)));
            }
            for (int i = 0; i < 3; i++) {
                int n = i;
                all.add(new Question("led " + p + " " + n, x -> x.led(p, n)));
            }
            all.add(new Question("worth " + p, x -> x.worth(p, 0)));
            all.add(new Question("sum " + p, x -> x.worth(p, 1)));
            all.add(new Question("heap " + p, x -> x.heap(p, 12)));
            all.add(new Question("plough " + p, x -> x.plough(p, 2)));
        }
    }

    private static void addWalks(List<Question> all, int walks) {
        for (int walk = 0; walk < walks; walk++) {
            for (int what = 0; what < 5; what++) {
                int w = walk;
                int t = what;
                all.add(new Question("told " + w + " " + t, x -> x.told(w, t)));
            }
        }
    }

    private static void addFinds(List<Question> all, int finds) {
        for (int find = 0; find < finds; find++) {
            for (int what = 0; what < 4; what++) {
                int f = find;
                int t = what;
                all.add(new Question("of " + f + " " + t, x -> x.of(f, t)));
            }
        }
    }

    private static void addWalkers(List<Question> all) {
        for (int walker = 0; walker < 5; walker++) {
            int v = walker;
            all.add(new Question("eye " + v, x -> x.eye(v)));
            for (int other = 0; other < 5; other++) {
                int w = other;
                all.add(new Question("pairs " + v + " " + w, x -> x.pair(v, w, 0)));
                all.add(new Question("seen " + v + " " + w, x -> x.pair(v, w, 1)));
            }
        }
    }

    private static List<Question> letting() {
        List<Question> all = new ArrayList<>();
        for (int day : DAYS) {
            for (int walker = 0; walker < 5; walker++) {
                for (int row = 0; row < 8; row++) {
                    int w = walker;
                    int r = row;
                    all.add(new Question("lets " + w + " " + r + " " + day, x -> x.lets(w, r, day)));
                }
            }
        }
        return all;
    }

    /** Each of these tells what was there, and leaves something else. */
    private static List<Question> replacing() {
        List<Question> all = new ArrayList<>();
        all.add(new Question("seed", x -> x.rule(0, 0)));
        all.add(new Question("spare", x -> x.rule(1, 0)));
        for (int kind = 0; kind < 4; kind++) {
            int k = kind;
            all.add(new Question("sort " + k, x -> x.sort(k, 0)));
            for (int period = 0; period < 3; period++) {
                int p = period;
                all.add(new Question("profile " + p + " " + k, x -> x.profile(p, k, 0)));
            }
        }
        for (int leave = 0; leave < 13; leave++) {
            int l = leave;
            all.add(new Question("withdraw " + l, x -> x.withdraw(l)));
        }
        for (int pace = 0; pace < 64; pace++) {
            int p = pace;
            all.add(new Question("spade " + p, x -> x.spade(p, 1)));
        }
        return all;
    }

    private static List<Question> ofSheet(int s) {
        List<Question> all = new ArrayList<>();
        for (int place = 0; place < 65; place++) {
            int p = place;
            all.add(new Question("mark " + s + " " + p, x -> x.mark(s, p, 0)));
        }
        all.add(new Question("lose " + s, x -> x.lose(s)));
        return all;
    }
}
