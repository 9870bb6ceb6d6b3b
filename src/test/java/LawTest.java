import java.nio.charset.StandardCharsets;
import java.util.List;
import java.util.Random;

/** Drawn texts, whole and spoilt: LateGlass and PlainGlass find the same fault, or tell the same. */
public final class LawTest {
    private static final int TEXTS = 30000;
    private static final List<String> TOKENS = List.of("late", "dust", "covers", "clear", "if", "or", "and", "not",
        "glass", "x", "y", "hour", "way", "body", "steps", "bright", "(", ")", "[", "]", "+", "-", "*", "/", "<", ">",
        "=", ";", "0", "1", "2", "5", "17", "1000", "1001", "0012", "z", "lates", "A", "\t", "\u00e9");

    private final Random random;
    private int room;

    private LawTest(long seed) {
        random = new Random(seed);
    }

    public static void main(String[] args) {
        int wrong = 0;
        int whole = 0;
        for (int seed = 0; seed < TEXTS; seed++) {
            String text = new LawTest(seed).text();
            String fault = differs(text);
            if (fault != null) {
                wrong++;
                System.out.println("seed " + seed + " '" + text + "': " + fault);
            }
            LateGlass g = new LateGlass();
            feed(g, null, text);
            whole += g.law() == 0 ? 1 : 0;
        }
        System.out.println("LawTest: " + TEXTS + " texts, " + whole + " whole, " + wrong + " wrong");
        if (wrong != 0 || whole < TEXTS / 4) {
            System.exit(1);
        }
    }

    private static void feed(LateGlass g, PlainGlass p, String text) {
        byte[] bytes = text.getBytes(StandardCharsets.ISO_8859_1);
        for (int i = 0; i < bytes.length; i += 20) {
            int[] five = new int[5];
            for (int k = 0; k < 20; k++) {
                five[k / 4] = five[k / 4] << 8 | (i + k < bytes.length ? bytes[i + k] & 255 : 32);
            }
            g.feed(five[0], five[1], five[2], five[3], five[4]);
            if (p != null) {
                p.feed(five[0], five[1], five[2], five[3], five[4]);
            }
        }
        g.end(bytes.length);
        if (p != null) {
            p.end(bytes.length);
        }
    }

    private static String differs(String text) {
        LateGlass g = new LateGlass();
        PlainGlass p = new PlainGlass();
        feed(g, p, text);
        int law = g.law();
        if (law != p.law() || g.fault() != p.fault()) {
            return "fault " + g.fault() + ", PlainGlass " + p.fault();
        }
        if (law != 0) {
            return null;
        }
        int[][] glasses = {{12, 0, 1, 1}, {15, 1, 0, 0}, {39, 0, 2, 2}, {36, 1, 1, 0}, {3, 4, 3, 1}, {59, 2, 0, 5}};
        g.least(0);
        p.least(0);
        for (int[] q : glasses) {
            g.glass(q[0], q[1], q[2], q[3]);
            p.glass(q[0], q[1], q[2], q[3]);
        }
        for (int body = 0; body < 3; body++) {
            g.body();
            p.body();
            g.stay(body, 0, 23, 13 + 9 * body);
            p.stay(body, 0, 23, 13 + 9 * body);
        }
        g.force(0);
        p.force(0);
        for (int look = 0; look < 24; look++) {
            for (int what = 0; what < 5; what++) {
                int a = g.look(look * 37 % 64, look % 4, 23 - look / 2, what);
                int b = p.look(look * 37 % 64, look % 4, 23 - look / 2, what);
                if (a != b) {
                    return "look " + look + " what " + what + ": " + a + ", PlainGlass " + b;
                }
            }
        }
        return null;
    }

    private String text() {
        StringBuilder text = new StringBuilder();
        room = 2 + random.nextInt(55);
        int clauses = random.nextInt(10) == 0 ? 10 + random.nextInt(5) : 1 + random.nextInt(4);
        for (int i = 0; i < clauses; i++) {
            text.append(i == 0 ? "" : ";").append(clause());
        }
        int spoils = random.nextInt(5) < 3 ? 0 : 1 + random.nextInt(2);
        for (int i = 0; i < spoils; i++) {
            int at = random.nextInt(text.length() + 1);
            int to = Math.min(text.length(), at + random.nextInt(4));
            String gap = random.nextBoolean() ? " " : "";
            text.replace(at, to, gap + TOKENS.get(random.nextInt(TOKENS.size())) + gap);
        }
        return text.length() > 400 ? text.substring(0, 400) : text.toString();
    }

    private String clause() {
        String head = TOKENS.get(random.nextInt(4));
        if (head.length() == 4) {
            head += " " + sum(random.nextInt(4));
        }
        return random.nextInt(4) == 0 ? head : head + " if " + test(random.nextInt(5));
    }

    private String test(int deep) {
        switch (deep <= 0 || room <= 0 ? 9 : random.nextInt(11)) {
            case 0: case 1: return test(deep - 1) + " or " + test(deep - 1);
            case 2: case 3: return test(deep - 1) + " and " + test(deep - 1);
            case 4: return "not " + test(deep - 1);
            case 5: return "(" + test(deep - 1) + ")";
            case 6: return "not(" + test(deep - 1) + " or " + test(deep - 1) + ")";
            case 7: {
                int brackets = random.nextInt(11);
                return "(".repeat(brackets) + test(deep - 1) + ")".repeat(brackets);
            }
            default: return sum(deep) + "<>=".charAt(random.nextInt(3)) + sum(deep - 1);
        }
    }

    private String sum(int deep) {
        switch (deep <= 0 || room <= 0 ? 9 : random.nextInt(12)) {
            case 0: case 1: return sum(deep - 1) + "+" + sum(deep - 1);
            case 2: return sum(deep - 1) + "-" + sum(deep - 1);
            case 3: return sum(deep - 1) + "*" + sum(deep - 1);
            case 4: case 5: return sum(deep - 1) + "/" + sum(deep - 1);
            case 6: return "[" + sum(deep - 1) + "]";
            case 7: {
                int brackets = random.nextInt(10);
                return "[".repeat(brackets) + sum(deep - 1) + "]".repeat(brackets);
            }
            default:
                room--;
                return random.nextBoolean() ? TOKENS.get(8 + random.nextInt(8)) : TOKENS.get(28 + random.nextInt(6));
        }
    }
}
