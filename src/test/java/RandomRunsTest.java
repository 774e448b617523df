import java.lang.reflect.Method;
import java.lang.reflect.Modifier;
import java.util.ArrayList;
import java.util.Arrays;
import java.util.Comparator;
import java.util.List;
import java.util.Random;

/** Runs of 512 calls by told seeds: SherdField and PlainField must answer all of them alike. */
final class RandomRunsTest {
    private static final int RUNS = 1500;
    private static final int CALLS = 512;

    private static final List<Method> SUT = new ArrayList<>();
    private static final List<Method> PLAIN = new ArrayList<>();

    private final Random random;
    private final SherdField sut = new SherdField();
    private final PlainField plain = new PlainField();
    private final List<String> trail = new ArrayList<>();
    private int called = 0;
    private int wide = 5;
    private int high = 4;

    private RandomRunsTest(long seed) {
        random = new Random(seed);
    }

    public static void main(String[] args) throws ReflectiveOperationException {
        Method[] all = SherdField.class.getDeclaredMethods();
        Arrays.sort(all, Comparator.comparing(Method::getName));
        for (Method method : all) {
            if (Modifier.isPublic(method.getModifiers())) {
                SUT.add(method);
                PLAIN.add(PlainField.class.getDeclaredMethod(method.getName(), method.getParameterTypes()));
            }
        }
        if (SUT.size() != 32) {
            System.out.println("methods of the face: " + SUT.size() + ", due are 32");
            System.exit(1);
        }
        int runs = args.length > 0 ? Integer.parseInt(args[0]) : RUNS;
        for (int run = 0; run < runs; run++) {
            if (!new RandomRunsTest(run * 7919L + 3).answersAlike()) {
                System.out.println("run " + run + " differs");
                System.exit(1);
            }
        }
        System.out.println(runs + " runs of " + CALLS + " calls are answered alike");
    }

    private boolean answersAlike() throws ReflectiveOperationException {
        double[] weights = new double[SUT.size() + 1];
        double whole = 0;
        for (int i = 0; i < weights.length; i++) {
            String name = i < SUT.size() ? SUT.get(i).getName() : "text";
            // A run that often makes a new field never comes far, nor does one that asks heaps alone.
            double most = switch (name) {
                case "field" -> 0.05;
                case "heap", "mixed", "greatest" -> 0.7;
                case "walk" -> 1.5;
                case "find" -> 8;
                case "days", "text" -> 0.2;
                case "lose" -> 0.1;
                default -> 1;
            };
            weights[i] = most * Math.pow(random.nextDouble(), 3);
            whole += weights[i];
        }
        boolean alike = true;
        while (alike && called < CALLS) {
            double at = random.nextDouble() * whole;
            int which = 0;
            while (which < weights.length - 1 && at >= weights[which]) {
                at -= weights[which];
                which++;
            }
            alike = which < SUT.size() ? call(which, argumentsOf(SUT.get(which))) : layText();
        }
        return alike;
    }

    private boolean call(int which, int[] arguments) throws ReflectiveOperationException {
        called++;
        Object[] boxed = Arrays.stream(arguments).boxed().toArray();
        Object got = SUT.get(which).invoke(sut, boxed);
        Object due = PLAIN.get(which).invoke(plain, boxed);
        trail.add(SUT.get(which).getName() + Arrays.toString(arguments) + " = " + got);
        if (!got.equals(due)) {
            for (String row : trail) {
                System.out.println(row);
            }
            System.out.println("due is " + due);
            return false;
        }
        if (SUT.get(which).getName().equals("field") && (Integer) got > 0) {
            wide = arguments[0];
            high = arguments[1];
        }
        return true;
    }

    private boolean callNamed(String name, int... arguments) throws ReflectiveOperationException {
        for (int which = 0; which < SUT.size(); which++) {
            if (SUT.get(which).getName().equals(name)) {
                return call(which, arguments);
            }
        }
        return false;
    }

    // ---- arguments

    private int[] argumentsOf(Method method) {
        int walks = plain.many(1);
        int finds = plain.many(2);
        switch (method.getName()) {
            case "field": return new int[] {from(2, 8), from(2, 8)};
            case "sort", "isOf": return new int[] {from(0, 3), from(0, 3)};
            case "walk": return new int[] {from(0, 4), from(0, high - 1)};
            case "find": return findArguments(walks);
            case "told": return new int[] {from(0, walks - 1), from(0, 4)};
            case "of": return new int[] {from(0, finds - 1), from(0, 3)};
            case "count", "corrected": return new int[] {pace(), from(0, 3)};
            case "led": return new int[] {pace(), from(0, 3)};
            case "pair": return new int[] {from(0, 4), from(0, 4), from(0, 2)};
            case "eye": return new int[] {from(0, 4)};
            case "worth", "spade": return new int[] {pace(), from(0, 1)};
            case "heap": return new int[] {pace(), random.nextBoolean() ? from(1, 9) : from(1, 99)};
            case "rule": return new int[] {from(0, 1), random.nextBoolean() ? from(0, 9) : random.nextInt()};
            case "plough": return new int[] {pace(), from(0, 50)};
            case "profile": return new int[] {from(0, 2), from(0, 3), from(0, 100)};
            case "mixed": return new int[] {from(0, 2)};
            case "feed": return new int[] {random.nextInt(), random.nextInt(), random.nextInt()};
            case "trim": return new int[] {from(0, plain.many(6))};
            case "withdraw": return new int[] {from(0, 11)};
            case "lets": return new int[] {from(0, 4), from(0, 7), from(0, 400)};
            case "days": return new int[] {from(1, 60)};
            case "sheet": return new int[] {from(0, 1), from(0, 64)};
            case "mark": return new int[] {from(0, 1), from(0, 64), random.nextBoolean() ? from(0, 9999) : random.nextInt()};
            case "copy": return new int[] {from(0, 1), from(0, 30), from(0, 1), from(0, 30), from(0, 30)};
            case "lose": return new int[] {from(0, 1)};
            case "many": return new int[] {from(0, 7)};
            default: return new int[0];
        }
    }

    private int[] findArguments(int walks) {
        int walk = from(0, walks - 1);
        int row = walk >= 0 && walk < walks ? plain.told(walk, 1) : 0;
        int n = random.nextInt(3) == 0 ? from(1, 99) : from(1, 6);
        return new int[] {walk, from(row * wide, row * wide + wide - 1), from(0, 3), n};
    }

    /** Often one with a find, for others have little to tell. */
    private int pace() {
        int finds = plain.many(2);
        return finds > 0 && random.nextInt(3) > 0 ? plain.of(random.nextInt(finds), 1) : from(0, wide * high - 1);
    }

    private int from(int least, int most) {
        int kind = random.nextInt(100);
        if (kind == 0) {
            return Check.FAR[random.nextInt(Check.FAR.length)];
        }
        if (kind < 5) {
            return random.nextBoolean() ? least - 1 : most + 1;
        }
        if (kind < 12) {
            return random.nextBoolean() ? least : most;
        }
        return most < least ? least : least + random.nextInt(most - least + 1);
    }

    // ---- texts

    private boolean layText() throws ReflectiveOperationException {
        String text = random.nextInt(4) == 0 ? spoilt(leaveText()) : leaveText();
        text = text.substring(0, Math.min(text.length(), 60));
        boolean alike = callNamed("trim", 0);
        for (int at = 0; alike && at < text.length(); at += 12) {
            int[] n = new int[3];
            for (int i = 0; i < 12; i++) {
                n[i / 4] = n[i / 4] << 8 | (at + i < text.length() ? text.charAt(at + i) : random.nextInt(256));
            }
            alike = callNamed("feed", n);
        }
        return alike && callNamed("trim", text.length()) && callNamed("leave");
    }

    private String leaveText() {
        StringBuilder text = new StringBuilder(blanks(0)).append("rows").append(blanks(1));
        int a = random.nextInt(4);
        text.append(a).append(blanks(1)).append("to").append(blanks(1)).append(from(a, 7));
        if (random.nextInt(3) == 0) {
            int c = from(0, 400);
            text.append(blanks(1)).append("days").append(blanks(1)).append(c).append(blanks(1)).append("to")
                .append(blanks(1)).append(from(Math.min(Math.max(c, 0), 400), 400));
        }
        if (random.nextInt(2) == 0) {
            int w = random.nextInt(5);
            text.append(blanks(1)).append("but").append(blanks(1)).append("who").append(blanks(1)).append(w);
            while (random.nextInt(5) > w) {
                w += random.nextInt(8) == 0 ? 0 : 1;
                text.append(blanks(1)).append("or").append(blanks(1)).append(w);
            }
        }
        return text.append(blanks(0)).toString();
    }

    private String blanks(int least) {
        return " ".repeat(random.nextInt(5) == 0 ? least + random.nextInt(3) : least);
    }

    private String spoilt(String text) {
        StringBuilder spoilt = new StringBuilder(text);
        int at = random.nextInt(text.length());
        switch (random.nextInt(4)) {
            case 0: spoilt.setLength(at); break;
            case 1: spoilt.setCharAt(at, (char) random.nextInt(256)); break;
            case 2: spoilt.deleteCharAt(at); break;
            default: spoilt.insert(at, "rows to days but who or 0 1 9 400 x".split(" ")[random.nextInt(11)]); break;
        }
        return spoilt.toString();
    }
}
