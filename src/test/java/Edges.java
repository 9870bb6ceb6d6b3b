import java.nio.charset.StandardCharsets;
import java.util.ArrayList;
import java.util.LinkedHashMap;
import java.util.List;
import java.util.Map;

/** Tests that are each named by the place in the document and the words there that they test. */
final class Edges {
    static final int NONE = LateGlass.NONE;
    static final int MIN = Integer.MIN_VALUE;
    static final int MAX = Integer.MAX_VALUE;
    static final int NORTH = 0;
    static final int EAST = 1;
    static final int SOUTH = 2;
    static final int WEST = 3;

    private final Map<String, Runnable> checks = new LinkedHashMap<>();
    private final Map<String, String> places = new LinkedHashMap<>();
    private final Map<String, String> words = new LinkedHashMap<>();
    private final List<String> complaints = new ArrayList<>();
    private int asked = 0;

    /** A place is "I" .. "IV" of the terms, or a promise's number; the words stand there. */
    void edge(String place, String said, Runnable check) {
        String name = place + ": " + said;
        for (int i = 2; checks.containsKey(name); i++) {
            name = place + ": " + said + " (" + i + ")";
        }
        checks.put(name, check);
        places.put(name, place);
        words.put(name, said);
    }

    List<String> names() {
        return List.copyOf(checks.keySet());
    }

    String placeOf(String name) {
        return places.get(name);
    }

    String wordsOf(String name) {
        return words.get(name);
    }

    int asked() {
        return asked;
    }

    /** What is wrong in a test. */
    List<String> run(String name) {
        complaints.clear();
        checks.get(name).run();
        return List.copyOf(complaints);
    }

    void due(long want, long got) {
        due("an answer", want, got);
    }

    void due(String what, long want, long got) {
        asked++;
        if (want != got) {
            complaints.add(what + " is " + got + ", due is " + want);
        }
    }

    void hold(String what, boolean is) {
        due(what, 1, is ? 1 : 0);
    }

    /** That a text's fault is there; NONE: it is a law. */
    void fault(int place, String text) {
        LateGlass g = new LateGlass();
        due("law '" + text + "'", place == NONE ? 0 : -6, law(g, text));
        due("fault of '" + text + "'", place, g.fault());
    }

    static int cell(int x, int y) {
        return 8 * y + x;
    }

    static void feed(LateGlass g, int... bytes) {
        int before = g.count(7);
        for (int i = 0; i < bytes.length; i += 20) {
            int[] five = new int[5];
            for (int k = 0; k < 20; k++) {
                five[k / 4] = five[k / 4] << 8 | (i + k < bytes.length ? bytes[i + k] & 255 : 0);
            }
            g.feed(five[0], five[1], five[2], five[3], five[4]);
        }
        g.end(before + bytes.length);
    }

    static int law(LateGlass g, String text) {
        byte[] bytes = text.getBytes(StandardCharsets.ISO_8859_1);
        int[] numbers = new int[bytes.length];
        for (int i = 0; i < bytes.length; i++) {
            numbers[i] = bytes[i];
        }
        feed(g, numbers);
        return g.law();
    }

    static void force(LateGlass g, String text) {
        g.force(law(g, text));
    }

    /** All cells but these are walls. */
    static LateGlass only(int... cells) {
        LateGlass g = new LateGlass();
        for (int cell = 0; cell < 64; cell++) {
            g.wall(cell, 1);
        }
        for (int cell : cells) {
            g.wall(cell, 0);
        }
        return g;
    }
}
