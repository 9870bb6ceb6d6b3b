import java.util.ArrayList;
import java.util.Arrays;
import java.util.List;

/**
 * The document once more, in its most naive form: no boards, no masks, no shared rows. It is what
 * LateGlass is compared with, call by call, by ModelTest.
 */
final class PlainGlass {
    private static final int NONE = -1;
    private static final int[] DX = {0, 1, 0, -1};
    private static final int[] DY = {-1, 0, 1, 0};

    /** What images keep; each list holds rows of numbers that are never changed, only replaced. */
    private static final class State {
        boolean[] walls = new boolean[64];
        List<int[]> glasses = new ArrayList<>();
        List<int[]> bodies = new ArrayList<>();
        List<PlainLaw> laws = new ArrayList<>();
        List<int[]> sightings = new ArrayList<>();
        List<int[]> spots = new ArrayList<>();
        List<int[]> wishes = new ArrayList<>();
        int least = 1000;
        int force = NONE;
        int start = NONE;

        State copy() {
            State s = new State();
            s.walls = walls.clone();
            copyRows(glasses, s.glasses);
            copyRows(bodies, s.bodies);
            s.laws.addAll(laws);
            copyRows(sightings, s.sightings);
            copyRows(spots, s.spots);
            copyRows(wishes, s.wishes);
            s.least = least;
            s.force = force;
            s.start = start;
            return s;
        }

        private static void copyRows(List<int[]> from, List<int[]> to) {
            for (int[] row : from) {
                to.add(row.clone());
            }
        }
    }

    /** A look's points, and how it ended. */
    private static final class Seen {
        final List<int[]> points = new ArrayList<>();
        int body = NONE;
        int bright = 1000000;
        int went = 0;

        boolean has(int cell, int hour) {
            return points.stream().anyMatch(p -> p[0] == cell && p[1] == hour);
        }
    }

    private State now = new State();
    private final State[] images = new State[2];
    private final ArrayList<Integer> tape = new ArrayList<>();
    private int faded = 0;
    private int fault = NONE;
    private int[] wandering = null;
    private final int[] refused = new int[7];
    private int status = 0;

    private int no(int why) {
        refused[-why]++;
        status = why;
        return why;
    }

    private int yes(int answer) {
        status = 0;
        return answer;
    }

    private static boolean in(int number, int from, int to) {
        return number >= from && number <= to;
    }

    private static boolean isLook(int cell, int way, int hour) {
        return in(cell, 0, 63) && in(way, 0, 3) && in(hour, 0, 23);
    }

    private boolean bodyIs(int body) {
        return in(body, 0, now.bodies.size() - 1);
    }

    private static int at(List<int[]> rows, int cell) {
        for (int i = 0; i < rows.size(); i++) {
            if (rows.get(i)[0] == cell) {
                return i;
            }
        }
        return NONE;
    }

    int wall(int cell, int is) {
        if (!in(cell, 0, 63) || !in(is, 0, 1)) {
            return no(-1);
        }
        for (int[] body : now.bodies) {
            for (int hour = 0; hour < 24; hour++) {
                if (body[hour] == cell) {
                    return no(-3);
                }
            }
        }
        if (at(now.glasses, cell) >= 0 || at(now.spots, cell) >= 0 || now.start == cell) {
            return no(-3);
        }
        boolean was = now.walls[cell];
        now.walls[cell] = is == 1;
        return yes(was ? 1 : 0);
    }

    int glass(int cell, int sort, int late, int dust) {
        if (!in(cell, 0, 63) || !in(sort, 0, 5) || !in(late, 0, 23) || !in(dust, 0, 10)) {
            return no(-1);
        }
        if (now.walls[cell] || at(now.glasses, cell) >= 0 || at(now.spots, cell) >= 0) {
            return no(-3);
        }
        if (now.glasses.size() == 6) {
            return no(-5);
        }
        now.glasses.add(new int[] {cell, sort, late, dust, 0});
        return yes(now.glasses.size() - 1);
    }

    int turn(int glass, int what, int value) {
        int[] most = {5, 23, 10, (1 << 24) - 1};
        if (!in(what, 0, 3) || !in(value, 0, most[what])) {
            return no(-1);
        }
        if (!in(glass, 0, now.glasses.size() - 1)) {
            return no(-2);
        }
        int was = now.glasses.get(glass)[what + 1];
        now.glasses.get(glass)[what + 1] = value;
        return yes(was);
    }

    int of(int glass, int what) {
        return in(glass, 0, now.glasses.size() - 1) && in(what, 0, 4) ? now.glasses.get(glass)[what] : NONE;
    }

    int body() {
        if (now.bodies.size() == 5) {
            return no(-5);
        }
        int[] out = new int[24];
        Arrays.fill(out, NONE);
        now.bodies.add(out);
        return yes(now.bodies.size() - 1);
    }

    int stay(int body, int from, int to, int cell) {
        if (!in(from, 0, 23) || !in(to, 0, 23) || to < from || !in(cell, -1, 63)) {
            return no(-1);
        }
        if (!bodyIs(body)) {
            return no(-2);
        }
        if (cell != NONE && now.walls[cell]) {
            return no(-3);
        }
        Arrays.fill(now.bodies.get(body), from, to + 1, cell);
        return yes(0);
    }

    int where(int body, int hour) {
        return bodyIs(body) && in(hour, 0, 23) ? now.bodies.get(body)[hour] : NONE;
    }

    int least(int bright) {
        if (!in(bright, 0, 1000000)) {
            return no(-1);
        }
        int was = now.least;
        now.least = bright;
        return yes(was);
    }

    int feed(int a, int b, int c, int d, int e) {
        if (tape.size() > 380) {
            return NONE;
        }
        for (int number : new int[] {a, b, c, d, e}) {
            for (int i = 3; i >= 0; i--) {
                tape.add((int) (((number & 0xFFFFFFFFL) / (1L << 8 * i)) % 256));
            }
        }
        return tape.size();
    }

    int end(int n) {
        if (!in(n, 0, tape.size())) {
            return NONE;
        }
        tape.subList(n, tape.size()).clear();
        return n;
    }

    int row() {
        if (tape.isEmpty()) {
            return no(-6);
        }
        int came = 0;
        faded = 0;
        for (int i = 0; i < tape.size(); i += 4) {
            if (i + 3 >= tape.size() || !oneStay(tape.get(i), tape.get(i + 1), tape.get(i + 2), tape.get(i + 3))) {
                faded++;
            } else {
                came++;
            }
        }
        tape.clear();
        return yes(came);
    }

    private boolean oneStay(int body, int from, int to, int cell) {
        boolean out = cell == 255;
        if (body >= now.bodies.size() || from > 23 || to > 23 || from > to || !out && cell > 63) {
            return false;
        }
        if (!out && now.walls[cell]) {
            return false;
        }
        for (int hour = from; hour <= to; hour++) {
            now.bodies.get(body)[hour] = out ? NONE : cell;
        }
        return true;
    }

    int faded() {
        return faded;
    }

    int law() {
        StringBuilder text = new StringBuilder();
        for (int b : tape) {
            text.append((char) b);
        }
        tape.clear();
        if (now.laws.size() == 6) {
            return no(-5);
        }
        try {
            now.laws.add(PlainLaw.read(text.toString()));
            fault = NONE;
        } catch (PlainLaw.Fault f) {
            fault = f.place;
            return no(-6);
        }
        return yes(now.laws.size() - 1);
    }

    int fault() {
        return fault;
    }

    int force(int law) {
        if (!in(law, -1, now.laws.size() - 1)) {
            return no(-2);
        }
        int was = now.force;
        now.force = law;
        return yes(was);
    }

    private Seen looking(int cell, int way, int hour, int hung) {
        Seen seen = new Seen();
        int x = cell % 8;
        int y = cell / 8;
        PlainLaw law = now.force == NONE ? null : now.laws.get(now.force);
        while (seen.points.size() < 200) {
            x += DX[way];
            y += DY[way];
            if (!in(x, 0, 7) || !in(y, 0, 7) || now.walls[8 * y + x]) {
                return seen;
            }
            int here = 8 * y + x;
            seen.points.add(new int[] {here, hour});
            PlainLaw.Asked asked = new PlainLaw.Asked();
            asked.put("x", x);
            asked.put("y", y);
            asked.put("hour", hour);
            asked.put("way", way);
            asked.put("steps", seen.points.size());
            asked.put("bright", seen.bright / 1000);
            asked.put("glass", -1);
            for (int b = 0; b < now.bodies.size(); b++) {
                asked.put("body", b);
                if (now.bodies.get(b)[hour] == here && (law == null || law.told("clear", asked) == null)) {
                    seen.body = b;
                    return seen;
                }
            }
            asked.put("body", -1);
            int number = at(now.glasses, here);
            int[] glass = number == NONE ? null : now.glasses.get(number);
            int spot = at(now.spots, here);
            if (glass == null && spot != NONE && (hung >> spot) % 2 == 1) {
                number = 6 + spot;
                glass = new int[] {here, now.spots.get(spot)[1], now.spots.get(spot)[2], 0, 0};
            }
            if (glass == null) {
                continue;
            }
            asked.put("glass", number);
            if ((glass[4] >> hour) % 2 == 1 || law != null && law.told("covers", asked) != null) {
                return seen;
            }
            int on = turned(glass[1], way);
            if (on == NONE) {
                return seen;
            }
            Long late = law == null ? null : law.told("late", asked);
            Long dust = law == null ? null : law.told("dust", asked);
            int hours = late == null ? glass[2] : late < 0 ? 0 : late > 23 ? 23 : late.intValue();
            int dirt = dust == null ? glass[3] : dust < 0 ? 0 : dust > 10 ? 10 : dust.intValue();
            if (hour - hours < 0) {
                return seen;
            }
            seen.bright = seen.bright * (10 - dirt) / 10;
            if (seen.bright < now.least) {
                return seen;
            }
            hour -= hours;
            way = on;
            seen.went |= 1 << number;
        }
        return seen;
    }

    /** Rows: the sorts; columns: the ways of coming; NONE: the back of a flat one. */
    private static int turned(int sort, int way) {
        int[][] table = {
            {1, 0, 3, 2},
            {3, 2, 1, 0},
            {-1, -1, 0, -1},
            {-1, -1, -1, 1},
            {2, -1, -1, -1},
            {-1, 3, -1, -1},
        };
        return table[sort][way];
    }

    int look(int cell, int way, int hour, int what) {
        if (!isLook(cell, way, hour) || !in(what, 0, 4)) {
            return NONE;
        }
        Seen seen = looking(cell, way, hour, 0);
        int n = seen.points.size();
        int last = n == 0 ? NONE : seen.points.get(n - 1)[1];
        return new int[] {seen.body, n, last, seen.bright, seen.went}[what];
    }

    int point(int cell, int way, int hour, int i) {
        if (!isLook(cell, way, hour)) {
            return NONE;
        }
        List<int[]> points = looking(cell, way, hour, 0).points;
        return in(i, 0, points.size() - 1) ? 64 * points.get(i)[1] + points.get(i)[0] : NONE;
    }

    int sees(int cell, int hour) {
        if (!isLook(cell, 0, hour)) {
            return NONE;
        }
        int bits = 0;
        for (int b = 0; b < now.bodies.size(); b++) {
            bits += howLate(cell, hour, b) == NONE ? 0 : 1 << b;
        }
        return bits;
    }

    private int howLate(int cell, int hour, int body) {
        int best = NONE;
        for (int way = 0; way < 4; way++) {
            Seen seen = looking(cell, way, hour, 0);
            if (seen.body == body) {
                int late = hour - seen.points.get(seen.points.size() - 1)[1];
                best = best == NONE ? late : Math.min(best, late);
            }
        }
        return best;
    }

    int late(int body, int other, int hour) {
        if (!bodyIs(body) || !bodyIs(other) || !in(hour, 0, 23) || where(body, hour) == NONE) {
            return NONE;
        }
        return howLate(where(body, hour), hour, other);
    }

    int first(int body, int what) {
        if (!bodyIs(body) || !in(what, 0, 2)) {
            return NONE;
        }
        for (int hour = 0; hour < 24; hour++) {
            for (int by = 0; by < now.bodies.size(); by++) {
                if (by != body && late(by, body, hour) != NONE) {
                    return new int[] {hour, by, late(by, body, hour)}[what];
                }
            }
        }
        return NONE;
    }

    int lit(int cell, int hour, int what) {
        if (!isLook(cell, 0, hour) || !in(what, -1, 63)) {
            return NONE;
        }
        boolean[] cells = new boolean[64];
        for (int way = 0; way < 4; way++) {
            for (int[] point : looking(cell, way, hour, 0).points) {
                cells[point[0]] = true;
            }
        }
        if (what != NONE) {
            return cells[what] ? 1 : 0;
        }
        int many = 0;
        for (boolean is : cells) {
            many += is ? 1 : 0;
        }
        return many;
    }

    /** Whether a cell in an hour is a point of any look of a body in that hour or a later one. */
    private boolean[][] watched() {
        boolean[][] is = new boolean[64][24];
        for (int[] body : now.bodies) {
            for (int hour = 0; hour < 24; hour++) {
                for (int way = 0; way < 4 && body[hour] != NONE; way++) {
                    for (int[] point : looking(body[hour], way, hour, 0).points) {
                        is[point[0]][point[1]] = true;
                    }
                }
            }
        }
        return is;
    }

    int unseen(int cell) {
        if (!in(cell, 0, 63)) {
            return NONE;
        }
        int hours = 0;
        for (boolean is : watched()[cell]) {
            hours += is ? 0 : 1;
        }
        return hours;
    }

    int sighting(int cell, int way, int hour, int seen) {
        if (!isLook(cell, way, hour) || !in(seen, 0, 1)) {
            return no(-1);
        }
        long sawn = now.sightings.stream().filter(s -> s[3] == 1).count();
        if (now.sightings.size() == 10 || seen == 1 && sawn == 5) {
            return no(-5);
        }
        now.sightings.add(new int[] {cell, way, hour, seen});
        return yes(now.sightings.size());
    }

    int drop(int sighting) {
        if (!in(sighting, 0, now.sightings.size() - 1)) {
            return no(-2);
        }
        now.sightings.remove(sighting);
        return yes(now.sightings.size());
    }

    int start(int cell) {
        if (!in(cell, -1, 63)) {
            return no(-1);
        }
        if (cell != NONE && now.walls[cell]) {
            return no(-3);
        }
        int was = now.start;
        now.start = cell;
        return yes(was);
    }

    /** Where the thief may be: walls and the start alone. */
    private boolean[][] free() {
        boolean[][] may = new boolean[24][64];
        for (int hour = 0; hour < 24; hour++) {
            for (int cell = 0; cell < 64; cell++) {
                may[hour][cell] = !now.walls[cell] && (hour > 0 || now.start == NONE || now.start == cell);
            }
        }
        return may;
    }

    private static void forbid(boolean[][] may, Seen seen) {
        for (int[] point : seen.points) {
            may[point[1]][point[0]] = false;
        }
    }

    /** All rows within what may be, less by inclusion and exclusion those that miss a sighting. */
    private long rows(boolean[][] may, List<int[]> sightings) {
        List<Seen> wanted = new ArrayList<>();
        boolean[][] left = copy(may);
        for (int[] s : sightings) {
            Seen seen = looking(s[0], s[1], s[2], 0);
            if (s[3] == 1) {
                wanted.add(seen);
            } else {
                forbid(left, seen);
            }
        }
        long sum = 0;
        for (int missed = 0; missed < 1 << wanted.size(); missed++) {
            boolean[][] within = copy(left);
            for (int i = 0; i < wanted.size(); i++) {
                if ((missed >> i & 1) == 1) {
                    forbid(within, wanted.get(i));
                }
            }
            sum += Integer.bitCount(missed) % 2 == 0 ? rowsWithin(within) : -rowsWithin(within);
        }
        return sum;
    }

    private static boolean[][] copy(boolean[][] may) {
        boolean[][] other = new boolean[24][];
        for (int hour = 0; hour < 24; hour++) {
            other[hour] = may[hour].clone();
        }
        return other;
    }

    private static long rowsWithin(boolean[][] may) {
        long[] ways = new long[64];
        Arrays.fill(ways, 1);
        for (int hour = 23; hour >= 0; hour--) {
            long[] before = new long[64];
            for (int cell = 0; cell < 64; cell++) {
                long here = may[hour][cell] ? ways[cell] : 0;
                before[cell] += here;
                for (int way = 0; way < 4; way++) {
                    if (in(cell % 8 + DX[way], 0, 7) && in(cell / 8 + DY[way], 0, 7)) {
                        before[cell + DX[way] + 8 * DY[way]] += here;
                    }
                }
            }
            if (hour == 0) {
                long sum = 0;
                for (int cell = 0; cell < 64; cell++) {
                    sum += may[0][cell] ? ways[cell] : 0;
                }
                return sum;
            }
            ways = before;
        }
        return 0;
    }

    long fits() {
        return rows(free(), now.sightings);
    }

    private static void pin(boolean[][] may, int hour, int cell) {
        for (int c = 0; c < 64; c++) {
            may[hour][c] &= c == cell;
        }
    }

    long could(int hour, int cell) {
        if (!in(hour, 0, 23) || !in(cell, -1, 63)) {
            return NONE;
        }
        if (cell != NONE) {
            boolean[][] may = free();
            pin(may, hour, cell);
            return rows(may, now.sightings);
        }
        int cells = 0;
        for (int c = 0; c < 64; c++) {
            cells += could(hour, c) > 0 ? 1 : 0;
        }
        return cells;
    }

    int path(int hour) {
        if (!in(hour, 0, 23) || fits() == 0) {
            return NONE;
        }
        boolean[][] may = free();
        for (int h = 0; ; h++) {
            for (int c = 0; c < 64; c++) {
                boolean[][] pinned = copy(may);
                pin(pinned, h, c);
                if (rows(pinned, now.sightings) > 0) {
                    may = pinned;
                    if (h == hour) {
                        return c;
                    }
                    break;
                }
            }
        }
    }

    int core() {
        if (fits() > 0) {
            return 0;
        }
        if (rows(free(), new ArrayList<>()) == 0) {
            return NONE;
        }
        int bits = (1 << now.sightings.size()) - 1;
        for (int i = 0; i < now.sightings.size(); i++) {
            List<int[]> others = new ArrayList<>();
            for (int k = 0; k < now.sightings.size(); k++) {
                if (k != i && (bits >> k & 1) == 1) {
                    others.add(now.sightings.get(k));
                }
            }
            if (rows(free(), others) == 0) {
                bits -= 1 << i;
            }
        }
        return bits;
    }

    long tells(int cell, int way, int hour) {
        if (!isLook(cell, way, hour)) {
            return NONE;
        }
        List<int[]> more = new ArrayList<>(now.sightings);
        more.add(new int[] {cell, way, hour, 1});
        return rows(free(), more);
    }

    int surely(int hour) {
        if (!in(hour, 0, 23)) {
            return NONE;
        }
        int only = NONE;
        for (int c = 0; c < 64; c++) {
            if (could(hour, c) > 0) {
                if (only != NONE) {
                    return NONE;
                }
                only = c;
            }
        }
        return only;
    }

    int spot(int cell, int sort, int late) {
        if (!in(cell, 0, 63) || !in(sort, 0, 5) || !in(late, 0, 23)) {
            return no(-1);
        }
        if (now.walls[cell] || at(now.glasses, cell) >= 0 || at(now.spots, cell) >= 0) {
            return no(-3);
        }
        if (now.spots.size() == 8) {
            return no(-5);
        }
        now.spots.add(new int[] {cell, sort, late});
        return yes(now.spots.size() - 1);
    }

    int wish(int cell, int way, int hour, int at, int then, int is) {
        if (!isLook(cell, way, hour) || !in(at, 0, 63) || !in(then, 0, 23) || !in(is, 0, 1)) {
            return no(-1);
        }
        if (now.wishes.size() == 6) {
            return no(-5);
        }
        now.wishes.add(new int[] {cell, way, hour, at, then, is});
        return yes(now.wishes.size());
    }

    int lacks(int spots) {
        if (!in(spots, 0, (1 << now.spots.size()) - 1)) {
            return NONE;
        }
        int bits = 0;
        for (int i = 0; i < now.wishes.size(); i++) {
            int[] w = now.wishes.get(i);
            if (looking(w[0], w[1], w[2], spots).has(w[3], w[4]) != (w[5] == 1)) {
                bits += 1 << i;
            }
        }
        return bits;
    }

    /** For drawing wishes that can be so: the last point of a look with spots hung, or NONE. */
    int lastPoint(int cell, int way, int hour, int hung) {
        List<int[]> points = looking(cell, way, hour, hung).points;
        return points.isEmpty() ? NONE : 64 * points.get(points.size() - 1)[1] + points.get(points.size() - 1)[0];
    }

    int hang(int what) {
        if (!in(what, 0, 2)) {
            return NONE;
        }
        for (int many = 0; many <= now.spots.size(); many++) {
            int ways = 0;
            int which = NONE;
            for (int spots = (1 << now.spots.size()) - 1; spots >= 0; spots--) {
                if (Integer.bitCount(spots) == many && lacks(spots) == 0) {
                    ways++;
                    which = spots;
                }
            }
            if (ways > 0) {
                return new int[] {many, ways, which}[what];
            }
        }
        return what == 1 ? 0 : NONE;
    }

    /** All rows' cells hour by hour, from the hour to the soonest; null: never. */
    private List<Integer> walk(int body, int cell, int hour) {
        if (!bodyIs(body) || !isLook(cell, 0, hour) || now.walls[cell]) {
            return null;
        }
        Boolean[][] sight = new Boolean[24][64];
        for (int last = hour; last < 24; last++) {
            List<Integer> row = new ArrayList<>();
            row.add(cell);
            if (goOn(row, body, hour, last, new boolean[24][64], sight)) {
                return row;
            }
        }
        return null;
    }

    private boolean goOn(List<Integer> row, int body, int from, int last, boolean[][] tried, Boolean[][] sight) {
        int hour = from + row.size() - 1;
        int cell = row.get(row.size() - 1);
        if (tried[hour][cell]) {
            return false;
        }
        tried[hour][cell] = true;
        if (hour == last) {
            if (sight[hour][cell] == null) {
                sight[hour][cell] = howLate(cell, hour, body) != NONE;
            }
            return sight[hour][cell];
        }
        for (int next = 0; next < 64; next++) {
            int far = Math.abs(next % 8 - cell % 8) + Math.abs(next / 8 - cell / 8);
            if (far <= 1 && !now.walls[next]) {
                row.add(next);
                if (goOn(row, body, from, last, tried, sight)) {
                    return true;
                }
                row.remove(row.size() - 1);
            }
        }
        return false;
    }

    int soonest(int body, int cell, int hour) {
        List<Integer> row = walk(body, cell, hour);
        return row == null ? NONE : hour + row.size() - 1;
    }

    int way(int body, int cell, int hour, int at) {
        List<Integer> row = walk(body, cell, hour);
        return row == null || !in(at, hour, hour + row.size() - 1) ? NONE : row.get(at - hour);
    }

    int sooner(int body, int cell, int hour, int what) {
        if (!in(what, 0, 2)) {
            return NONE;
        }
        int without = soonest(body, cell, hour);
        int[] best = null;
        for (int g = 0; g < now.glasses.size(); g++) {
            int sort = now.glasses.get(g)[1];
            for (int s = 0; s < 6; s++) {
                if (s != sort) {
                    now.glasses.get(g)[1] = s;
                    int with = soonest(body, cell, hour);
                    if (with != NONE && (best == null || with < best[0])) {
                        best = new int[] {with, g, s};
                    }
                }
            }
            now.glasses.get(g)[1] = sort;
        }
        return best == null || without != NONE && best[0] >= without ? NONE : best[what];
    }

    int wander(int seed, int cell) {
        if (!in(seed, 0, 1000000) || !in(cell, 0, 63)) {
            return no(-1);
        }
        if (now.walls[cell]) {
            return no(-3);
        }
        wandering = new int[24];
        wandering[0] = cell;
        long s = seed;
        for (int hour = 1; hour < 24; hour++) {
            s = (s * 1103 + 12345) % 1000003;
            int draw = (int) (s % 5);
            int to = wandering[hour - 1];
            if (draw < 4 && in(to % 8 + DX[draw], 0, 7) && in(to / 8 + DY[draw], 0, 7)
                    && !now.walls[to + DX[draw] + 8 * DY[draw]]) {
                to += DX[draw] + 8 * DY[draw];
            }
            wandering[hour] = to;
        }
        boolean[][] is = watched();
        int hours = 0;
        for (int hour = 0; hour < 24; hour++) {
            hours += is[wandering[hour]][hour] ? 1 : 0;
        }
        return yes(hours);
    }

    int drawn(int hour) {
        return wandering != null && in(hour, 0, 23) ? wandering[hour] : NONE;
    }

    int image(int k) {
        if (!in(k, 0, 1)) {
            return no(-1);
        }
        images[k] = now.copy();
        return yes(0);
    }

    int back(int k) {
        if (!in(k, 0, 1)) {
            return no(-1);
        }
        if (images[k] == null) {
            return no(-2);
        }
        now = images[k].copy();
        return yes(0);
    }

    int count(int what) {
        int walls = 0;
        for (boolean is : now.walls) {
            walls += is ? 1 : 0;
        }
        int[] all = {now.glasses.size(), now.bodies.size(), now.laws.size(), now.sightings.size(),
            now.spots.size(), now.wishes.size(), walls, tape.size(),
            refused[1], refused[2], refused[3], refused[5], refused[6], now.force};
        return in(what, 0, 13) ? all[what] : NONE;
    }

    int status() {
        return status;
    }
}
