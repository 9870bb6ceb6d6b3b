import java.lang.reflect.InvocationTargetException;
import java.lang.reflect.Method;
import java.util.ArrayList;
import java.util.HashMap;
import java.util.List;
import java.util.Map;
import java.util.Random;

/** Drawn runs of calls: LateGlass and PlainGlass answer alike, call by call, and nothing is thrown. */
public final class ModelTest {
    private static final int RUNS = 400;
    private static final int CALLS = 512;

    private static final Map<String, Method> REAL = methods(LateGlass.class);
    private static final Map<String, Method> PLAIN = methods(PlainGlass.class);

    private final Random random;
    private final LateGlass real = new LateGlass();
    private final PlainGlass plain = new PlainGlass();
    private final List<String> said = new ArrayList<>();
    private final int[] homes;
    private final boolean wild;
    /** Bodies are in few hours, so that a walker has to wait, and to look into the past. */
    private final boolean brief;
    private int calls = 0;

    private ModelTest(long seed) {
        random = new Random(seed);
        // Few rows and columns, so that glasses, bodies and spots stand before one another.
        int[] lines = random.ints(3, 0, 8).toArray();
        int[] columns = random.ints(3, 0, 8).toArray();
        homes = new int[9];
        for (int i = 0; i < homes.length; i++) {
            homes[i] = 8 * lines[i / 3] + columns[i % 3];
        }
        wild = random.nextInt(8) == 0;
        brief = random.nextBoolean();
    }

    public static void main(String[] args) throws Exception {
        int runs = args.length > 2 ? Integer.parseInt(args[2]) : RUNS;
        long wrong = java.util.stream.IntStream.range(0, runs).parallel().filter(seed -> !isSame(seed)).count();
        System.out.println("ModelTest: " + runs + " runs, " + wrong + " wrong");
        if (wrong != 0) {
            System.exit(1);
        }
    }

    private static boolean isSame(long seed) {
        ModelTest test = new ModelTest(seed);
        try {
            test.run();
            return true;
        } catch (IllegalStateException e) {
            synchronized (ModelTest.class) {
                System.out.println("seed " + seed + ":");
                test.said.forEach(s -> System.out.println("  " + s));
                System.out.println("  " + e.getMessage());
            }
            return false;
        }
    }

    private static Map<String, Method> methods(Class<?> type) {
        Map<String, Method> map = new HashMap<>();
        for (Method method : type.getDeclaredMethods()) {
            map.put(method.getName() + "/" + method.getParameterCount(), method);
        }
        return map;
    }

    private void call(String name, Integer... args) {
        if (calls++ >= CALLS) {
            return;
        }
        String text = name + List.of(args);
        Object a = answer(REAL, real, name, args);
        Object b = answer(PLAIN, plain, name, args);
        said.add(text + " -> " + a);
        if (!a.equals(b)) {
            throw new IllegalStateException("LateGlass " + a + ", PlainGlass " + b);
        }
    }

    private Object answer(Map<String, Method> methods, Object on, String name, Integer[] args) {
        try {
            return methods.get(name + "/" + args.length).invoke(on, (Object[]) args);
        } catch (InvocationTargetException e) {
            e.getCause().printStackTrace();
            throw new IllegalStateException(on.getClass() + " threw " + e.getCause());
        } catch (IllegalAccessException e) {
            throw new IllegalStateException(e);
        }
    }

    private int number(int from, int to) {
        int odd = random.nextInt(wild ? 6 : 60);
        if (odd == 0) {
            int[] edges = {from - 1, to + 1, from, to, Integer.MIN_VALUE, Integer.MAX_VALUE, -1, 255, random.nextInt()};
            return edges[random.nextInt(edges.length)];
        }
        return from + random.nextInt(to - from + 1);
    }

    private int cell() {
        return random.nextInt(3) == 0 ? number(0, 63) : homes[random.nextInt(homes.length)];
    }

    private int cellOrNone() {
        return random.nextInt(4) == 0 ? -1 : cell();
    }

    private int hour() {
        return number(0, 23);
    }

    private int way() {
        return number(0, 3);
    }

    private int body() {
        return number(0, 2);
    }

    private int low(int most) {
        return random.nextInt(2) == 0 ? number(0, Math.min(3, most)) : number(0, most);
    }

    private void run() {
        for (int i = 0; i < 6; i++) {
            call("glass", cell(), number(0, 5), low(23), low(10));
        }
        for (int i = 0; i < 3; i++) {
            call("body");
            int from = brief ? random.nextInt(20) : 0;
            call("stay", i, from, brief ? from + random.nextInt(3) : 23, cell());
        }
        while (calls < CALLS) {
            switch (random.nextInt(8)) {
                case 0: change(); break;
                case 1: law(); break;
                case 2: row(); break;
                case 3: case 4: looks(); break;
                case 5: thief(); break;
                case 6: spots(); break;
                default: rest(); break;
            }
        }
    }

    private void change() {
        switch (random.nextInt(7)) {
            case 0: call("wall", cell(), number(0, 1)); break;
            case 1: call("glass", cell(), number(0, 5), low(23), low(10)); break;
            case 2: call("turn", number(0, 5), 3, random.nextInt(3) == 0 ? number(0, (1 << 24) - 1) : 0); break;
            case 3: {
                int what = number(0, 2);
                call("turn", number(0, 5), what, what == 0 ? number(0, 5) : what == 1 ? low(23) : low(10));
                break;
            }
            case 4: call(random.nextInt(6) == 0 ? "body" : "status"); break;
            case 5: {
                int from = number(0, 23);
                call("stay", body(), from, brief ? from : number(8, 23), cellOrNone());
                break;
            }
            default: call("least", random.nextInt(2) == 0 ? 0 : number(0, 1000000)); break;
        }
    }

    private void feed(byte[] bytes) {
        int before = real.count(7);
        for (int i = 0; i < bytes.length; i += 20) {
            Integer[] five = new Integer[5];
            for (int k = 0; k < 5; k++) {
                int word = 0;
                for (int j = 0; j < 4; j++) {
                    int place = i + 4 * k + j;
                    word = word << 8 | (place < bytes.length ? bytes[place] & 255 : 32);
                }
                five[k] = word;
            }
            call("feed", five);
        }
        call("end", before + bytes.length);
    }

    private void law() {
        StringBuilder text = new StringBuilder();
        int clauses = random.nextInt(12) == 0 ? 11 + random.nextInt(3) : 1 + random.nextInt(4);
        for (int i = 0; i < clauses; i++) {
            text.append(i == 0 ? "" : ";").append(clause());
        }
        if (random.nextInt(3) == 0 && text.length() > 0) {
            int at = random.nextInt(text.length());
            String[] odd = {"", " ", "x", "7", "(", ")", "[", "]", "if", ";", "-", "not ", "\t", "A", "9999"};
            text.replace(at, Math.min(text.length(), at + random.nextInt(3)), odd[random.nextInt(odd.length)]);
        }
        if (text.length() > 400) {
            text.setLength(400);
        }
        feed(text.toString().getBytes(java.nio.charset.StandardCharsets.ISO_8859_1));
        call("law");
        call("fault");
        call("count", 2);
        call("force", random.nextInt(4) == 0 ? number(-1, 5) : real.count(2) - 1);
        if (real.count(2) >= 5) {
            call("back", number(0, 1));
        }
    }

    private String clause() {
        String head = List.of("late ", "dust ", "covers ", "clear ").get(random.nextInt(4));
        if (head.startsWith("late")) {
            head += random.nextInt(2) == 0 ? "" + random.nextInt(4) : sum(2);
        } else if (head.startsWith("dust")) {
            head += random.nextInt(2) == 0 ? "" + random.nextInt(4) : sum(2);
        }
        return random.nextInt(5) == 0 && head.length() != 7 ? head : head + " if " + test(2);
    }

    private String test(int deep) {
        switch (deep <= 0 ? 5 : random.nextInt(8)) {
            case 0: return test(deep - 1) + " or " + test(deep - 1);
            case 1: return test(deep - 1) + " and " + test(deep - 1);
            case 2: return "not " + test(deep - 1);
            case 3: return "(" + test(deep - 1) + ")";
            case 4: return "not(" + test(deep - 1) + " or " + test(deep - 1) + ")";
            default: return sum(deep) + "<>=".charAt(random.nextInt(3)) + " " + sum(deep - 1);
        }
    }

    private String sum(int deep) {
        switch (deep <= 0 ? 7 + random.nextInt(3) : random.nextInt(10)) {
            case 0: return sum(deep - 1) + "+" + sum(deep - 1);
            case 1: return sum(deep - 1) + " - " + sum(deep - 1);
            case 2: return sum(deep - 1) + " * " + sum(deep - 1);
            case 3: return sum(deep - 1) + "/" + sum(deep - 1);
            case 4: return "[" + sum(deep - 1) + " ]";
            case 5: return sum(deep - 1) + " * 1000 * 1000 / [" + sum(deep - 1) + "]";
            case 6: case 7:
                return "" + new int[] {0, 1, 2, 3, 7, 12, 500, 900, 1000}[random.nextInt(9)];
            default:
                return List.of("glass", "x", "y", "hour", "way", "body", "steps", "bright").get(random.nextInt(8));
        }
    }

    private void row() {
        byte[] bytes = new byte[random.nextInt(36)];
        for (int i = 0; i < bytes.length; i++) {
            switch (i % 4) {
                case 0: bytes[i] = (byte) random.nextInt(4); break;
                case 1: bytes[i] = (byte) random.nextInt(14); break;
                case 2: bytes[i] = brief ? bytes[i - 1] : (byte) (8 + random.nextInt(17)); break;
                default: bytes[i] = (byte) (random.nextInt(6) == 0 ? 255 : cell()); break;
            }
        }
        feed(bytes);
        call("count", 7);
        call("row");
        call("faded");
        call("where", body(), hour());
    }

    private void looks() {
        int cell = cell();
        int hour = hour();
        switch (random.nextInt(6)) {
            case 0: {
                int way = way();
                for (int what = -1; what <= 5; what++) {
                    call("look", cell, way, hour, what);
                }
                for (int i = -1; i <= 8; i++) {
                    call("point", cell, way, hour, i);
                }
                call("point", cell, way, hour, number(0, 200));
                break;
            }
            case 1: call("sees", cell, hour); break;
            case 2: call("late", body(), body(), hour); break;
            case 3: call("first", body(), number(0, 2)); break;
            case 4: call("lit", cell, hour, cellOrNone()); break;
            default: call("unseen", cell); break;
        }
    }

    private void thief() {
        call("start", random.nextInt(2) == 0 ? -1 : cell());
        int more = random.nextInt(4);
        for (int i = 0; i < more; i++) {
            call("sighting", cell(), way(), hour(), number(0, 1));
        }
        call("fits");
        call("core");
        call("could", hour(), cell());
        call("tells", cell(), way(), hour());
        int rare = random.nextInt(12);
        if (rare == 0 && real.count(3) < 5) {
            call("path", hour());
        } else if (rare == 1) {
            call("could", hour(), -1);
        } else if (rare == 2) {
            call("surely", hour());
        } else if (rare == 3) {
            narrow();
        }
        int less = random.nextInt(4);
        for (int i = 0; i < less; i++) {
            call("drop", number(0, 4));
        }
    }

    /** So few ways that the rows can be told apart. */
    private void narrow() {
        call("image", 0);
        for (int y = 0; y < 8; y++) {
            for (int x = 0; x < 8; x++) {
                if (random.nextInt(3) != 0 && calls < CALLS - 150) {
                    call("wall", 8 * y + x, 1);
                }
            }
        }
        for (int i = 0; i < 4; i++) {
            int hour = hour();
            call("surely", hour);
            call("could", hour, -1);
            call("path", hour);
            call("sighting", cell(), way(), hour(), number(0, 1));
            call("fits");
            call("core");
        }
        call("back", 0);
    }

    /** Wishes that some spots meet together. */
    private void hanging() {
        call("image", 1);
        for (int i = 0; i < 8; i++) {
            call("spot", cell(), number(0, 5), low(23));
        }
        int hung = random.nextInt(1 << real.count(4));
        for (int i = 0; i < 3; i++) {
            int cell = random.nextInt(64);
            int way = random.nextInt(4);
            int hour = random.nextInt(24);
            int is = random.nextInt(2);
            int point = plain.lastPoint(cell, way, hour, is == 1 ? hung : 0);
            if (point >= 0) {
                call("wish", cell, way, hour, point % 64, point / 64, is);
                call("lacks", hung);
                call("hang", 0);
                call("hang", 1);
                call("hang", 2);
            }
        }
        call("back", 1);
    }

    private void spots() {
        if (random.nextInt(3) == 0) {
            hanging();
            return;
        }
        call("spot", cell(), number(0, 5), low(23));
        call("spot", cell(), number(0, 5), low(23));
        int cell = cell();
        int way = way();
        int hour = hour();
        if (random.nextInt(2) == 0) {
            call("wish", cell, way, hour, cell(), random.nextInt(2) == 0 ? hour : hour(), number(0, 1));
        }
        call("lacks", number(0, (1 << real.count(4)) - 1));
        call("hang", 0);
        call("hang", 1);
        call("hang", 2);
        if (real.count(4) >= 7 && random.nextInt(3) == 0) {
            call("back", number(0, 1));
        }
    }

    private void rest() {
        switch (random.nextInt(7)) {
            case 0: {
                int body = body();
                int cell = cell();
                int hour = hour();
                call("soonest", body, cell, hour);
                for (int at = hour - 1; at < hour + 4; at++) {
                    call("way", body, cell, hour, at);
                }
                break;
            }
            case 1: {
                int body = body();
                int cell = cell();
                int hour = hour();
                for (int what = -1; what <= 3; what++) {
                    call("sooner", body, cell, hour, what);
                }
                break;
            }
            case 2:
                call("wander", number(0, 1000000), cell());
                for (int hour = -1; hour <= 24; hour += 1 + random.nextInt(9)) {
                    call("drawn", hour);
                }
                break;
            case 3: call("image", number(0, 1)); break;
            case 4: call("back", number(0, 1)); break;
            case 5: call("of", number(0, 5), number(0, 4)); break;
            default:
                call("status");
                call("count", number(0, 13));
                break;
        }
    }
}
