import java.lang.reflect.InvocationTargetException;
import java.lang.reflect.Method;
import java.lang.reflect.Modifier;
import java.util.ArrayList;
import java.util.Comparator;
import java.util.List;
import java.util.Random;
import java.util.stream.IntStream;

/** Calls with any numbers in any state: none throws, and nothing grows beyond its limit. */
public final class WildTest {
    private static final int RUNS = 4000;
    private static final int CALLS = 512;
    private static final int[] MOST = {6, 5, 6, 10, 8, 6, 64, 400};
    private static final int[] ODD = {Integer.MIN_VALUE, Integer.MIN_VALUE + 1, -65, -64, -25, -8, -7, -6, -5, -4, -3, -2, -1,
        0, 1, 2, 3, 4, 5, 6, 7, 8, 9, 10, 11, 12, 13, 14, 22, 23, 24, 25, 31, 32, 62, 63, 64, 65, 199, 200, 201, 254, 255, 256,
        380, 381, 400, 401, 999999, 1000000, 1000001, 1 << 24, (1 << 24) - 1, 1 << 30, Integer.MAX_VALUE - 1,
        Integer.MAX_VALUE};
    private static final String[] WORDS = {"late ", "dust ", "covers ", "clear ", "if ", "or ", "and ", "not ", "glass ", "x ",
        "hour ", "body ", "steps ", "bright ", "1", "0", "1000", "[", "]", "(", ")", "<", ">", "=", "+", "-", "*", "/", ";",
        "late 1;", "clear if x<3 ", "dust hour/2 ", "covers if hour=5 ", "\u00ff", "\t"};
    private static final List<Method> METHODS = methods();

    private static List<Method> methods() {
        List<Method> methods = new ArrayList<>();
        for (Method method : LateGlass.class.getDeclaredMethods()) {
            if (Modifier.isPublic(method.getModifiers())) {
                methods.add(method);
            }
        }
        methods.sort(Comparator.comparing(Method::getName));
        return methods;
    }

    public static void main(String[] args) {
        long wrong = IntStream.range(0, RUNS).parallel().filter(seed -> !isFine(seed)).count();
        System.out.println("WildTest: " + RUNS + " runs of " + CALLS + " calls, " + wrong + " wrong");
        if (wrong != 0) {
            System.exit(1);
        }
    }

    private static boolean isFine(int seed) {
        Random random = new Random(seed);
        LateGlass g = new LateGlass();
        int calls = 0;
        if (seed % 3 != 0) {
            calls += furnish(g, random);
        }
        while (calls < CALLS - 60) {
            if (random.nextInt(12) == 0) {
                calls += law(g, random);
            }
            Method method = METHODS.get(random.nextInt(METHODS.size()));
            Object[] numbers = new Object[method.getParameterCount()];
            for (int i = 0; i < numbers.length; i++) {
                numbers[i] = number(random);
            }
            String text = method.getName() + List.of(numbers);
            try {
                long answer = ((Number) method.invoke(g, numbers)).longValue();
                calls++;
                if (answer < -6 || answer == -4) {
                    System.out.println("seed " + seed + ": " + text + " answered " + answer);
                    return false;
                }
            } catch (InvocationTargetException e) {
                System.out.println("seed " + seed + ": " + text + " threw " + e.getCause());
                return false;
            } catch (IllegalAccessException e) {
                throw new IllegalStateException(e);
            }
        }
        return isWithinLimits(g, seed);
    }

    private static int number(Random random) {
        int kind = random.nextInt(20);
        return kind == 0 ? random.nextInt() : kind < 6 ? ODD[random.nextInt(ODD.length)]
            : kind < 14 ? random.nextInt(6) : random.nextInt(64);
    }

    private static int furnish(LateGlass g, Random random) {
        for (int i = 0; i < 8; i++) {
            g.glass(random.nextInt(64), random.nextInt(6), random.nextInt(3), random.nextInt(3));
            g.body();
            g.stay(i, random.nextInt(12), 12 + random.nextInt(12), random.nextInt(64));
            g.spot(random.nextInt(64), random.nextInt(6), random.nextInt(4));
            g.sighting(random.nextInt(64), random.nextInt(4), random.nextInt(24), random.nextInt(2));
            g.wish(random.nextInt(64), random.nextInt(4), 20, random.nextInt(64), 20, random.nextInt(2));
        }
        return 48;
    }

    private static int law(LateGlass g, Random random) {
        StringBuilder text = new StringBuilder();
        for (int i = 1 + random.nextInt(12); i > 0; i--) {
            text.append(WORDS[random.nextInt(WORDS.length)]);
        }
        g.force(Edges.law(g, text.toString()));
        return 12;
    }

    private static boolean isWithinLimits(LateGlass g, int seed) {
        boolean fine = true;
        for (int what = 0; what < MOST.length; what++) {
            fine &= g.count(what) >= 0 && g.count(what) <= MOST[what];
        }
        fine &= g.count(13) >= LateGlass.NONE && g.count(13) < Math.max(1, g.count(2));
        fine &= List.of(0, -1, -2, -3, -5, -6).contains(g.status());
        if (!fine) {
            System.out.println("seed " + seed + ": beyond a limit");
        }
        return fine;
    }
}
