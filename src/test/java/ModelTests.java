import java.lang.reflect.Method;
import java.util.ArrayDeque;
import java.util.Random;

/** Long runs of calls, by chance but always the same ones, answered as the plain model answers them. */
final class ModelTests {
    private static final int RUNS = 1500;
    private static final int CALLS = 512;
    private static final int[] WILD = {Integer.MIN_VALUE, Integer.MAX_VALUE, -40, -10, 60, 61, 256, 65535, 65536};
    private static final String[] CLAUSES = {"n2", "n3", "n4", "n4", "n1", "n5", "+", "-", "+0", "+01", "-012", "+0123",
        "+33", "-9", "+31", "-2", "w03", "w1-2", "w29", "w3-9", "w010", "w0-10", "w00", "w4-4", "q4", "q-3", "q40",
        "q41", "q-41", "q00", "q-0", "g", "g", "d", "o", "t0", "t3", "t9", "x01", "x32", "x11", "x40", "k"};
    private static final String SIGNS = "nwqgdotxk+-;0123456789 zN";
    private static final int THEN_READ = -1;

    private final Random chance;
    private final ArrayDeque<Integer> signsToFeed = new ArrayDeque<>();

    private ModelTests(Random chance) {
        this.chance = chance;
    }

    public static void main(String[] args) throws Exception {
        Checks checks = new Checks("ModelTests");
        Method[] calls = WeighedLots.class.getDeclaredMethods();
        java.util.Arrays.sort(calls, java.util.Comparator.comparing(Method::getName));
        for (int run = 0; run < RUNS; run++) {
            new ModelTests(new Random(run)).go(run, calls, checks);
        }
        checks.end();
    }

    private void go(int run, Method[] calls, Checks checks) throws Exception {
        WeighedLots real = new WeighedLots();
        PlainModel model = new PlainModel();
        for (int c = 0; c < CALLS; c++) {
            Method call = calls[chance.nextInt(calls.length)];
            if (!java.lang.reflect.Modifier.isPublic(call.getModifiers()) || skips(call.getName())) {
                continue;
            }
            Object[] given = arguments(call);
            if (!signsToFeed.isEmpty()) {
                int sign = signsToFeed.remove();
                call = sign == THEN_READ ? WeighedLots.class.getMethod("read") : WeighedLots.class.getMethod("feed", int.class);
                given = sign == THEN_READ ? new Object[0] : new Object[] {sign};
            }
            long got = ((Number) call.invoke(real, given)).longValue();
            Method plain = PlainModel.class.getMethod(call.getName(), call.getParameterTypes());
            long want = ((Number) plain.invoke(model, given)).longValue();
            checks.due("run " + run + ", call " + c + ", " + call.getName() + java.util.Arrays.toString(given), got, want);
            if (got != want) {
                return;
            }
        }
    }

    /** What throws much away comes seldom, so that there is something to ask. */
    private boolean skips(String name) {
        return name.equals("voters") && chance.nextInt(3) != 0;
    }

    private Object[] arguments(Method call) {
        String name = call.getName();
        if (signsToFeed.isEmpty() && name.equals("read") && chance.nextInt(4) != 0) {
            nextText();
        }
        Class<?>[] types = call.getParameterTypes();
        Object[] given = new Object[types.length];
        for (int k = 0; k < types.length; k++) {
            given[k] = types[k] == long.class ? (Object) longNumber() : (Object) number(name, k);
        }
        return given;
    }

    private int number(String name, int k) {
        if (chance.nextInt(40) == 0) {
            return WILD[chance.nextInt(WILD.length)];
        }
        switch (name) {
            case "code": return codeByChance();
            case "weight": return k == 0 ? small(4) : chance.nextInt(21) - 10;
            case "quota": return chance.nextInt(4) == 0 ? chance.nextInt(83) - 41 : chance.nextInt(11) - 4;
            case "told": return small(12);
            case "feed": return chance.nextInt(3) == 0 ? chance.nextInt(130) - 1 : SIGNS.charAt(chance.nextInt(SIGNS.length()));
            case "voters": return 1 + chance.nextInt(5);
            case "say": return k == 0 ? small(16) : small(2);
            case "of": return k == 0 ? small(16) : small(4);
            case "see":
            case "book": return k == 0 ? (chance.nextInt(12) == 0 ? -1 : chance.nextInt(17)) : small(2);
            case "event": return k == 0 ? (chance.nextInt(12) == 0 ? -1 : chance.nextInt(5)) : chance.nextInt(4) == 0 ? small(16) : small(3);
            case "tape": return k == 0 ? small(6) : k == 1 ? (chance.nextBoolean() ? 4 : chance.nextInt(7) - 2) : small(62);
            case "item":
            case "peek": return k == 0 ? small(6) : small(20);
            case "judge": return k == 0 ? small(6) : small(30);
            case "shift": return k % 2 == 0 && k < 4 ? small(6) : small(30);
            default: return small(4);
        }
    }

    /** 0 .. n - 1 mostly, and now and then one beyond. */
    private int small(int n) {
        return chance.nextInt(8) == 0 ? chance.nextInt(n + 2) - 1 : chance.nextInt(n);
    }

    private int codeByChance() {
        int[] told = {0, 255, 15, 65535, 128, 232, 150, 60136, 33272, 24966, 65280, 63624, 59520, 27030, 8, 14, 6};
        return chance.nextBoolean() ? told[chance.nextInt(told.length)] : chance.nextInt(65536) >> (chance.nextInt(3) * 4);
    }

    private long longNumber() {
        return chance.nextInt(3) == 0 ? chance.nextLong() : chance.nextInt(2) * (1L << chance.nextInt(64));
    }

    private void nextText() {
        StringBuilder text = new StringBuilder();
        int many = chance.nextInt(10) == 0 ? 11 + chance.nextInt(3) : 1 + chance.nextInt(6);
        for (int c = 0; c < many; c++) {
            text.append(c == 0 ? "" : ";").append(CLAUSES[chance.nextInt(CLAUSES.length)]);
        }
        if (chance.nextInt(4) == 0) {
            int at = chance.nextInt(text.length() + 1);
            text.insert(at, SIGNS.charAt(chance.nextInt(SIGNS.length())));
        }
        if (chance.nextInt(6) == 0) {
            text.deleteCharAt(chance.nextInt(text.length()));
        }
        for (char c : text.toString().toCharArray()) {
            signsToFeed.add((int) c);
        }
        signsToFeed.add(THEN_READ);
    }
}
