import java.lang.reflect.InvocationTargetException;
import java.lang.reflect.Method;
import java.util.HashMap;
import java.util.Map;
import java.util.Random;

/** Runs of 512 calls, from fixed seeds, on the class and on Model: each answer and the whole state must be the same. */
public final class ModelTest {
    private static final int RUNS = 400;
    private static final int CALLS = 512;
    private static final String[] NAMES = {
        "open", "expire", "deliver", "lose", "hand", "call", "accept", "clear", "reset", "send", "receive"
    };
    /** How often each is called; the rows bring runs to different places: smooth, lossy, and much handed. */
    private static final int[][] WEIGHTS = {
        {1, 2, 60, 1, 0, 12, 20, 1, 1, 30, 20},
        {1, 12, 40, 10, 4, 12, 16, 3, 3, 20, 15},
        {1, 4, 12, 4, 40, 6, 6, 2, 2, 12, 6},
        {0, 1, 30, 2, 12, 8, 10, 3, 3, 25, 18},
        {4, 10, 20, 4, 20, 5, 5, 5, 5, 5, 5},
    };

    private final Random random;
    private final int[] weights;
    private final ChannelledLink x = new ChannelledLink();
    private final Model model = new Model();
    private final StringBuilder calls = new StringBuilder();

    private ModelTest(int seed) {
        random = new Random(seed);
        weights = WEIGHTS[seed % WEIGHTS.length];
    }

    public static void main(String[] args) {
        Map<String, Method[]> methods = new HashMap<>();
        for (String name : NAMES) {
            methods.put(name, new Method[] {named(ChannelledLink.class, name), named(Model.class, name)});
        }
        for (int seed = 0; seed < RUNS; seed++) {
            new ModelTest(seed).run(seed, methods);
        }
        Checks.finish();
    }

    private static Method named(Class<?> type, String name) {
        for (Method method : type.getMethods()) {
            if (method.getName().equals(name)) {
                return method;
            }
        }
        throw new IllegalArgumentException(name);
    }

    private void run(int seed, Map<String, Method[]> methods) {
        for (int call = 0; call < CALLS; call++) {
            String name = call == 0 ? "open" : NAMES[drawName()];
            Object[] arguments = drawArguments(name);
            calls.append(name).append(java.util.Arrays.toString(arguments)).append(' ');
            Method[] both = methods.get(name);
            String got = answer(both[0], x, arguments) + "\n" + Checks.state(x);
            String want = answer(both[1], model, arguments) + "\n" + model.state();
            if (!got.equals(want)) {
                Checks.due("seed " + seed + ", after " + calls, got, want);
                return;
            }
        }
        Checks.due("seed " + seed, true, true);
    }

    private int drawName() {
        int sum = 0;
        for (int weight : weights) {
            sum += weight;
        }
        int left = random.nextInt(sum);
        int name = 0;
        while (left >= weights[name]) {
            left -= weights[name];
            name++;
        }
        return name;
    }

    private Object[] drawArguments(String name) {
        int s = rarely(200) ? random.nextInt(9) - 4 : random.nextInt(2);
        int c = rarely(200) ? random.nextInt(9) - 4 : random.nextInt(3);
        switch (name) {
            case "open": case "expire": case "deliver": case "lose":
                return new Object[] {s};
            case "hand":
                return drawPacket(s, c);
            case "send":
                return new Object[] {s, c, rarely(50) ? random.nextInt(1000) - 400 : random.nextInt(256), random.nextBoolean()};
            default:
                return new Object[] {s, c};
        }
    }

    /** Numbers that fit are drawn often, as others only lead from one RESET to the next. */
    private Object[] drawPacket(int s, int c) {
        int kind = rarely(50) ? random.nextInt(20) - 5 : 1 + random.nextInt(8);
        int number = rarely(50) ? random.nextInt(20) - 5 : random.nextInt(8);
        int acknowledgement = rarely(50) ? random.nextInt(20) - 5 : random.nextInt(8);
        boolean isThere = s >= 0 && s < 2 && c >= 0 && c < 3;
        if (isThere && !rarely(4)) {
            number = x.channel(s, c, 3);
        }
        if (isThere && !rarely(4)) {
            acknowledgement = x.channel(s, c, 1 + random.nextInt(2));
        }
        return new Object[] {s, c, kind, number, acknowledgement};
    }

    private boolean rarely(int oneIn) {
        return random.nextInt(oneIn) == 0;
    }

    private static String answer(Method method, Object object, Object[] arguments) {
        try {
            return String.valueOf(method.invoke(object, arguments));
        } catch (InvocationTargetException e) {
            return e.getCause().getClass().getSimpleName();
        } catch (IllegalAccessException e) {
            return e.toString();
        }
    }
}
