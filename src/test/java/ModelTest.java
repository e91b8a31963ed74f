import java.lang.reflect.InvocationTargetException;
import java.lang.reflect.Method;
import java.util.ArrayList;
import java.util.Arrays;
import java.util.Comparator;
import java.util.List;
import java.util.Random;

/**
 * All promises at once: runs of calls, drawn from a fixed seed, on the class and on the naive Model, which
 * must answer the same. A call that throws in the class fails the test as a wrong answer does.
 */
public final class ModelTest {
    private static final int RUNS = 1500;
    /** What an object answers after so many calls is free. */
    private static final int CALLS = 512;
    /** The looks at the end of a run: of(..) of ten with five whats, status(..) of eight. */
    private static final int LOOKS = 58;
    private static final int[] EXTREMES = {Integer.MIN_VALUE, Integer.MIN_VALUE + 1, -1000, -2, -1, 0, 1, 2, 7, 8, 9, 10,
        15, 16, 20, 21, 40, 41, 60, 61, 99, 100, 999, 1000, Integer.MAX_VALUE - 1, Integer.MAX_VALUE};
    private static final String[] WORDS = {"rumour", "big", "dull", "shy", "royal", "wells", "of", "bulk", "in", "house",
        "beds", "larder", "leans", "true", ";", "0", "1", "2", "3", "7", "8", "15", "16", "99", "100", "999", "1000", "?", "x"};

    private static Random random;
    /** How many calls the object of this run has had. */
    private static int made;
    /** The calls that make a town happen are drawn more often than those that look. */
    private static final List<Method> drawn = new ArrayList<>();

    public static void main(String[] args) throws Exception {
        Method[] face = Arrays.stream(RumourBeds.class.getDeclaredMethods())
            .filter(m -> java.lang.reflect.Modifier.isPublic(m.getModifiers()))
            .sorted(Comparator.comparing(Method::getName)).toArray(Method[]::new);
        if (face.length != 42 - 1) {
            System.out.println("the face has " + face.length + " methods");
            System.exit(1);
        }
        for (Method m : face) {
            int times = List.of("comeIn", "days", "rumour", "house", "improve", "set").contains(m.getName()) ? 4 : 2;
            if (List.of("undo", "image", "town", "wipe", "comesTrue").contains(m.getName())) times = 1;
            for (int i = 0; i < times; i++) drawn.add(m);
        }
        Watch.endWithin(600);
        for (int run = 0; run < RUNS; run++) {
            Watch.isDoing("run " + run);
            oneRun(run);
        }
        System.out.println(RUNS + " runs answer as the model does");
    }

    private static void oneRun(int run) throws Exception {
        random = new Random(run);
        RumourBeds x = new RumourBeds();
        Model y = new Model();
        made = 0;
        List<String> said = new ArrayList<>();
        // Towns of few events, beds and much to eat live longest; most runs begin with one.
        int wildness = 1 + random.nextInt(40);
        boolean slow = run % 4 != 0;
        while (made < CALLS - LOOKS) {
            if (random.nextInt(25) == 0) {
                feedText(x, y, said);
                continue;
            }
            Method m = drawn.get(random.nextInt(drawn.size()));
            if (slow && m.getName().equals("days") && random.nextInt(3) != 0) continue;
            Object[] values = argumentsFor(m, wildness, slow);
            check(x, y, m, values, said);
        }
        look(x, y, said);
    }

    private static void look(RumourBeds x, Model y, List<String> said) throws Exception {
        Method status = RumourBeds.class.getMethod("status", int.class);
        for (int w = -1; w < 7; w++) check(x, y, status, new Object[] {w}, said);
        Method of = RumourBeds.class.getMethod("of", int.class, int.class);
        for (int r = 0; r < 10; r++) for (int w = 0; w < 5; w++) check(x, y, of, new Object[] {r, w}, said);
    }

    private static void feedText(RumourBeds x, Model y, List<String> said) throws Exception {
        StringBuilder text = new StringBuilder();
        int items = 1 + random.nextInt(4);
        for (int i = 0; i < items; i++) {
            if (i > 0) text.append(random.nextBoolean() ? ";" : " ; ");
            text.append(item());
        }
        if (random.nextInt(5) == 0) text.append(' ').append(WORDS[random.nextInt(WORDS.length)]);
        if (random.nextInt(9) == 0 && text.length() > 0) text.setCharAt(random.nextInt(text.length()), (char) random.nextInt(256));
        Method feed = RumourBeds.class.getMethod("feed", int.class, int.class);
        check(x, y, RumourBeds.class.getMethod("wipe"), new Object[0], said);
        int at = 0;
        while (at < text.length()) {
            int n = Math.min(1 + random.nextInt(4), text.length() - at);
            int bytes = random.nextInt();
            for (int i = 0; i < n; i++) bytes = bytes << 8 | text.charAt(at + i);
            check(x, y, feed, new Object[] {bytes, n}, said);
            at += n;
        }
        said.add("text '" + text + "'");
        check(x, y, RumourBeds.class.getMethod("town"), new Object[0], said);
    }

    private static String item() {
        String blank = random.nextInt(9) == 0 ? "" : " ";
        switch (random.nextInt(6)) {
            case 0: return "true" + blank + random.nextInt(17);
            case 1: case 2:
                return "house" + blank + random.nextInt(9 - random.nextInt(2)) + part("beds", 4) + part("larder", 1001) + part("leans", 11);
            default:
                return WORDS[random.nextInt(6)] + " of" + blank + random.nextInt(random.nextInt(5) == 0 ? 17 : 3)
                    + part("bulk", 101) + part("in", 8);
        }
    }

    private static String part(String word, int below) {
        return random.nextBoolean() ? "" : " " + word + " " + random.nextInt(below);
    }

    private static Object[] argumentsFor(Method m, int wildness, boolean slow) {
        Class<?>[] types = m.getParameterTypes();
        Object[] values = new Object[types.length];
        for (int i = 0; i < types.length; i++) {
            int v = random.nextInt(wildness + 10) == 0 ? EXTREMES[random.nextInt(EXTREMES.length)] : likely(m.getName(), i);
            if (slow && m.getName().equals("days")) v = Math.min(v, 3);
            if (types[i] == long.class) values[i] = random.nextInt(5) == 0 ? random.nextLong() : (long) v;
            else values[i] = v;
        }
        if (m.getName().equals("house") && random.nextInt(3) != 0) {
            // A v that the house may have, for what it is set to.
            int what = random.nextInt(3);
            values[1] = what;
            values[2] = random.nextInt(what == 0 ? 4 : what == 1 ? 1000 : 10);
        }
        return values;
    }

    /** A value that the parameter may well have. */
    private static int likely(String name, int i) {
        switch (name) {
            case "house": case "houseOf": return i == 0 ? random.nextInt(8) : i == 1 ? random.nextInt(6) : random.nextInt(60);
            case "rumour": return i == 0 ? random.nextInt(6) : random.nextInt(3);
            case "of": return i == 0 ? random.nextInt(10) : random.nextInt(8);
            case "set": return i == 0 ? random.nextInt(10) : i == 1 ? 1 + random.nextInt(3) : random.nextInt(random.nextBoolean() ? 4 : 60);
            case "turn": case "as": return i == 0 ? random.nextInt(10) : random.nextInt(6);
            case "takes": case "lean": return i == 0 ? random.nextInt(8) : random.nextInt(10);
            case "improve": return i == 0 ? random.nextInt(10) : 1 + random.nextInt(20);
            case "fewest": return i == 0 ? random.nextInt(10) : random.nextInt(8);
            case "comesTrue": case "forget": return random.nextInt(3);
            case "days": return 1 + random.nextInt(60);
            case "on": return i == 0 ? random.nextInt(10) : i == 1 ? random.nextInt(61) : random.nextInt(2);
            case "larder": return i == 0 ? random.nextInt(8) : random.nextInt(61);
            case "leanFor": case "beds": return i == 0 ? random.nextInt(8) : random.nextInt(21);
            case "best": return random.nextInt(21);
            case "many": return random.nextInt(61);
            case "feed": return i == 0 ? random.nextInt() : 1 + random.nextInt(4);
            case "sheet": return i == 0 ? random.nextInt(4) : i == 1 ? new int[] {0, 8, 16, 16, 64, 64}[random.nextInt(6)] : random.nextInt(12);
            case "write": return i == 0 ? random.nextInt(4) : i == 1 ? random.nextInt(12) : random.nextInt(60);
            case "copy": return i == 0 || i == 2 ? random.nextInt(4) : random.nextInt(5);
            case "lays": return random.nextInt(4);
            case "book": case "read": return i == 0 ? random.nextInt(4) : random.nextInt(8);
            case "status": return random.nextInt(8) - 1;
            default: return random.nextInt(8);
        }
    }

    /** A text begun near a run's end may leave no call for all of it, or for all looks: those are not made. */
    private static void check(RumourBeds x, Model y, Method m, Object[] values, List<String> said) throws Exception {
        if (made == CALLS) return;
        made++;
        String call = m.getName() + Arrays.toString(values);
        Method other = Model.class.getDeclaredMethod(m.getName(), m.getParameterTypes());
        long want = ((Number) other.invoke(y, values)).longValue();
        long got;
        try {
            got = ((Number) m.invoke(x, values)).longValue();
        } catch (InvocationTargetException thrown) {
            fail(said, call + " threw " + thrown.getCause());
            return;
        }
        said.add(call + " = " + got);
        if (got != want) {
            fail(said, call + " answered " + got + ", the model " + want);
        }
    }

    private static void fail(List<String> said, String how) {
        said.forEach(System.out::println);
        System.out.println(how);
        System.exit(1);
    }
}
