import java.util.LinkedHashMap;
import java.util.Map;

/** Terms I: the house, and what a call is refused by. */
final class HouseEdges {
    private static final int NONE = Edges.NONE;
    private static final int NORTH = Edges.NORTH;
    private static final int EAST = Edges.EAST;
    private static final int SOUTH = Edges.SOUTH;
    private static final int WEST = Edges.WEST;

    /** A call with one number that is tried, all else in it being fine. */
    private interface Call {
        long by(LateGlass g, int number);
    }

    private HouseEdges() {
    }

    static void add(Edges e) {
        cells(e);
        hours(e);
        ways(e);
        edgeOfTheHouse(e);
        things(e);
        order(e);
        refusedCallsChangeNothing(e);
    }

    /** Two bodies, a glass, a thief who can't leave his corner: there is an answer for all hours. */
    private static LateGlass furnished() {
        LateGlass g = new LateGlass();
        g.body();
        g.body();
        g.stay(0, 0, 23, 56);
        g.stay(1, 0, 23, 58);
        g.glass(35, 0, 0, 0);
        g.wall(1, 1);
        g.wall(8, 1);
        g.start(0);
        return g;
    }

    private static void range(Edges e, Map<String, Call> calls, int[] good, int[] bad) {
        calls.forEach((name, call) -> {
            for (int number : good) {
                e.hold(name + " of " + number + " can be", call.by(furnished(), number) >= 0);
            }
            for (int number : bad) {
                e.due(name + " of " + number, -1, call.by(furnished(), number));
            }
        });
    }

    private static void cells(Edges e) {
        Map<String, Call> all = new LinkedHashMap<>();
        all.put("wall", (g, c) -> {
            g.start(NONE);
            return g.wall(c, 1);
        });
        all.put("glass", (g, c) -> g.glass(c, 0, 0, 0));
        all.put("look", (g, c) -> g.look(c, NORTH, 0, 1));
        all.put("point", (g, c) -> {
            g.wall(8, 0);
            return g.point(c, c == 63 ? NORTH : SOUTH, 0, 0);
        });
        all.put("sees", (g, c) -> g.sees(c, 0));
        all.put("lit", (g, c) -> g.lit(c, 0, NONE));
        all.put("unseen", (g, c) -> g.unseen(c));
        all.put("sighting", (g, c) -> g.sighting(c, 0, 0, 0));
        all.put("tells", (g, c) -> g.tells(c, 0, 0));
        all.put("spot", (g, c) -> g.spot(c, 0, 0));
        all.put("a wish from", (g, c) -> g.wish(c, 0, 0, 0, 0, 0));
        all.put("a wish at", (g, c) -> g.wish(0, 0, 0, c, 0, 0));
        all.put("wander", (g, c) -> g.wander(0, c));
        all.put("soonest", (g, c) -> {
            g.wall(8, 0);
            return g.soonest(0, c, 0);
        });
        all.put("way", (g, c) -> {
            g.wall(8, 0);
            return g.way(0, c, 0, 0);
        });
        Map<String, Call> orNone = new LinkedHashMap<>();
        orNone.put("stay", (g, c) -> g.stay(0, 0, 0, c));
        orNone.put("lit what", (g, c) -> g.lit(0, 0, c));
        orNone.put("could", (g, c) -> g.could(0, c));
        orNone.put("start", (g, c) -> {
            int answer = g.start(c);
            return answer == 0 ? g.start(c) - c : answer;
        });
        int[] bad = {-1, 64, Edges.MIN, Edges.MAX};
        int[] badOrNone = {-2, 64, Edges.MIN, Edges.MAX};
        e.edge("I", "CELLS 0 .. 63", () -> range(e, all, new int[] {0, 63}, bad));
        e.edge("I", "CELLS 0 .. 63", () -> range(e, orNone, new int[] {0, NONE, 63}, badOrNone));
    }

    private static void hours(Edges e) {
        Map<String, Call> all = new LinkedHashMap<>();
        all.put("stay to", (g, h) -> g.stay(0, 0, h, 5));
        all.put("stay from", (g, h) -> g.stay(0, h, 23, 5));
        all.put("where", (g, h) -> g.where(0, h));
        all.put("look", (g, h) -> g.look(63, WEST, h, 1));
        all.put("point", (g, h) -> g.point(63, WEST, h, 0));
        all.put("sees", (g, h) -> g.sees(63, h));
        all.put("late", (g, h) -> g.late(0, 1, h));
        all.put("lit", (g, h) -> g.lit(0, h, NONE));
        all.put("sighting", (g, h) -> g.sighting(0, 0, h, 0));
        all.put("could", (g, h) -> g.could(h, 0));
        all.put("could all", (g, h) -> g.could(h, NONE));
        all.put("path", (g, h) -> g.path(h));
        all.put("tells", (g, h) -> g.tells(0, 0, h));
        all.put("surely", (g, h) -> g.surely(h));
        all.put("a wish of a look", (g, h) -> g.wish(0, 0, h, 0, 0, 0));
        all.put("a wish of an hour", (g, h) -> g.wish(0, 0, 0, 0, h, 0));
        all.put("soonest", (g, h) -> g.soonest(1, 59, h));
        all.put("way", (g, h) -> g.way(1, 59, h, h));
        all.put("drawn", (g, h) -> {
            g.wander(0, 0);
            return g.drawn(h);
        });
        e.edge("I", "HOURS 0 .. 23", () -> range(e, all, new int[] {0, 23}, new int[] {-1, 24, Edges.MIN, Edges.MAX}));
        Map<String, Call> lates = new LinkedHashMap<>();
        lates.put("glass", (g, late) -> g.glass(40, 0, late, 0));
        lates.put("turn", (g, late) -> g.turn(0, 1, late));
        lates.put("spot", (g, late) -> g.spot(40, 0, late));
        e.edge("I", "LATE 0 .. 23", () -> range(e, lates, new int[] {0, 23}, new int[] {-1, 24, Edges.MIN, Edges.MAX}));
    }

    private static void ways(Edges e) {
        Map<String, Call> all = new LinkedHashMap<>();
        all.put("look", (g, w) -> g.look(36, w, 0, 1));
        all.put("point", (g, w) -> g.point(36, w, 0, 0));
        all.put("sighting", (g, w) -> g.sighting(36, w, 0, 0));
        all.put("tells", (g, w) -> g.tells(36, w, 0));
        all.put("wish", (g, w) -> g.wish(36, w, 0, 0, 0, 0));
        e.edge("I", "WAYS 0 north", () -> range(e, all, new int[] {0, 3}, new int[] {-1, 4, Edges.MIN, Edges.MAX}));
        int middle = Edges.cell(3, 4);
        e.edge("I", "0 north (y less), 1 east (x more), 2 south, 3 west", () -> {
            LateGlass g = new LateGlass();
            e.due("north", Edges.cell(3, 3), g.point(middle, 0, 0, 0));
            e.due("east", Edges.cell(4, 4), g.point(middle, 1, 0, 0));
            e.due("south", Edges.cell(3, 5), g.point(middle, 2, 0, 0));
            e.due("west", Edges.cell(2, 4), g.point(middle, 3, 0, 0));
        });
    }

    private static void edgeOfTheHouse(Edges e) {
        e.edge("I", "x, y 0 .. 7 each, CELL 8 y and x", () -> {
            LateGlass g = new LateGlass();
            for (int i = 0; i < 8; i++) {
                e.due("east of x 7", 0, g.look(Edges.cell(7, i), EAST, 0, 1));
                e.due("east from x 0", 7, g.look(Edges.cell(0, i), EAST, 0, 1));
                e.due("west of x 0", 0, g.look(Edges.cell(0, i), WEST, 0, 1));
                e.due("west from x 7", 7, g.look(Edges.cell(7, i), WEST, 0, 1));
                e.due("north of y 0", 0, g.look(Edges.cell(i, 0), NORTH, 0, 1));
                e.due("north from y 7", 7, g.look(Edges.cell(i, 7), NORTH, 0, 1));
                e.due("south of y 7", 0, g.look(Edges.cell(i, 7), SOUTH, 0, 1));
                e.due("south from y 0", 7, g.look(Edges.cell(i, 0), SOUTH, 0, 1));
            }
        });
    }

    private static void things(Edges e) {
        e.edge("I", "WALLS are some (none at first)", () -> {
            LateGlass g = new LateGlass();
            e.due(0, g.count(6));
            for (int cell = 0; cell < 64; cell++) {
                e.due("at first", 0, g.wall(cell, 1));
            }
            e.due("all can be", 64, g.count(6));
        });
        e.edge("I", "GLASSES 0 .. 5 (6 at most)", () -> {
            LateGlass g = new LateGlass();
            for (int i = 0; i < 6; i++) {
                e.due(i, g.glass(i, 0, 0, 0));
            }
            e.due("a seventh", -5, g.glass(6, 0, 0, 0));
            e.due("how many", 6, g.count(0));
            e.due("none such", NONE, g.of(6, 0));
        });
        e.edge("I", "each in a CELL (one in each at most)", () -> {
            LateGlass g = new LateGlass();
            g.glass(9, 0, 0, 0);
            e.due(-3, g.glass(9, 1, 0, 0));
            e.due(1, g.glass(10, 1, 0, 0));
        });
        e.edge("I", "of a SORT: 0 leans as /, 1 as \\, 2 .. 5 flat, FACING north, east, south, west", () -> {
            LateGlass g = new LateGlass();
            for (int bad : new int[] {-1, 6, Edges.MIN, Edges.MAX}) {
                e.due("glass", -1, g.glass(0, bad, 0, 0));
                e.due("spot", -1, g.spot(0, bad, 0));
            }
            e.due("the least", 0, g.glass(0, 0, 0, 0));
            e.due("the greatest", 1, g.glass(1, 5, 0, 0));
            e.due("turned to no sort", -1, g.turn(0, 0, 6));
            e.due("turned to no sort", -1, g.turn(0, 0, -1));
            e.due("turned", 0, g.turn(0, 0, 5));
            e.due("a spot", 0, g.spot(2, 0, 0));
            e.due("a spot", 1, g.spot(3, 5, 0));
            int middle = Edges.cell(3, 3);
            int[] beside = {Edges.cell(3, 2), Edges.cell(4, 3), Edges.cell(3, 4), Edges.cell(2, 3)};
            for (int facing = 0; facing < 4; facing++) {
                LateGlass flat = new LateGlass();
                flat.glass(middle, 2 + facing, 0, 0);
                for (int from = 0; from < 4; from++) {
                    boolean is = facing == from;
                    e.due("sort " + (2 + facing) + " from side " + from, is ? 1 : 0, flat.lit(beside[from], 5, beside[from]));
                }
            }
        });
        e.edge("I", "DUST 0 .. 10", () -> {
            LateGlass g = new LateGlass();
            e.due(-1, g.glass(0, 0, 0, -1));
            e.due(-1, g.glass(0, 0, 0, 11));
            e.due("the least", 0, g.glass(0, 0, 0, 0));
            e.due("the greatest", 1, g.glass(1, 0, 0, 10));
            e.due(-1, g.turn(0, 2, -1));
            e.due(-1, g.turn(0, 2, 11));
            e.due("turned", 0, g.turn(0, 2, 10));
            e.due("turned", 10, g.turn(0, 2, 0));
        });
        e.edge("I", "COVERED in HOURS (bits; none at first)", () -> {
            LateGlass g = new LateGlass();
            g.glass(0, 0, 0, 0);
            e.due("at first", 0, g.of(0, 4));
            e.due("in hour 24", -1, g.turn(0, 3, 1 << 24));
            e.due("below", -1, g.turn(0, 3, -1));
            e.due("in all hours", 0, g.turn(0, 3, (1 << 24) - 1));
            e.due("in none", (1 << 24) - 1, g.turn(0, 3, 0));
            e.due("in none", 0, g.of(0, 4));
        });
        e.edge("I", "BODIES 0 .. 4 (5 at most)", () -> {
            LateGlass g = new LateGlass();
            for (int i = 0; i < 5; i++) {
                e.due(i, g.body());
            }
            e.due("a sixth", -5, g.body());
            e.due("how many", 5, g.count(1));
            e.due("none such", -2, g.stay(5, 0, 0, 0));
            e.due("the last", 0, g.stay(4, 0, 0, 0));
        });
        e.edge("I", "each in each HOUR in a CELL, or out (at first)", () -> {
            LateGlass g = new LateGlass();
            g.body();
            for (int hour = 0; hour < 24; hour++) {
                e.due("in hour " + hour, NONE, g.where(0, hour));
            }
            e.due("out is nowhere: nothing is seen", 0, g.sees(0, 0));
            e.due("out is nowhere: a wall can be anywhere", 0, g.wall(0, 1));
            g.wall(0, 0);
            g.stay(0, 0, 23, 9);
            g.stay(0, 0, 23, NONE);
            e.due("out again: a wall can be there", 0, g.wall(0, 1));
            e.due("out again: a wall can be there", 0, g.wall(9, 1));
        });
        e.edge("I", "LEAST 0 .. 1,000,000 (1,000 at first)", () -> {
            LateGlass g = new LateGlass();
            e.due("too small", -1, g.least(-1));
            e.due("too large", -1, g.least(1000001));
            e.due("at first", 1000, g.least(0));
            e.due("the least", 0, g.least(1000000));
            e.due("the greatest", 1000000, g.least(1));
        });
    }

    private static void order(Edges e) {
        e.edge("I", "-1 a number that can't be", () -> {
            LateGlass g = new LateGlass();
            e.due(-1, g.wall(64, 0));
            e.due(-1, g.status());
            e.due(1, g.count(8));
        });
        e.edge("I", "-2 there is no such GLASS, BODY, LAW, SIGHTING, IMAGE", () -> {
            LateGlass g = new LateGlass();
            e.due("glass", -2, g.turn(0, 0, 0));
            e.due("body", -2, g.stay(0, 0, 0, 0));
            e.due("law", -2, g.force(0));
            e.due("sighting", -2, g.drop(0));
            e.due("image", -2, g.back(0));
            e.due("how many", 5, g.count(9));
            g.glass(0, 0, 0, 0);
            g.body();
            law(g);
            g.sighting(0, 0, 0, 0);
            for (int bad : new int[] {1, 6, 10, Edges.MAX, -2, Edges.MIN}) {
                e.due("glass " + bad, -2, g.turn(bad, 0, 0));
                e.due("body " + bad, -2, g.stay(bad, 0, 0, 0));
                e.due("law " + bad, -2, g.force(bad));
                e.due("sighting " + bad, -2, g.drop(bad));
            }
        });
        e.edge("I", "-3 it can't be by what stands", () -> {
            LateGlass g = new LateGlass();
            g.wall(63, 1);
            g.start(0);
            g.body();
            e.due("wall", -3, g.wall(0, 1));
            e.due("glass", -3, g.glass(63, 0, 0, 0));
            e.due("stay", -3, g.stay(0, 0, 0, 63));
            e.due("start", -3, g.start(63));
            e.due("spot", -3, g.spot(63, 0, 0));
            e.due("wander", -3, g.wander(0, 63));
            e.due("how many", 6, g.count(10));
        });
        e.edge("I", "-5 no room", () -> {
            LateGlass g = full();
            int before = g.count(11);
            e.due("glass", -5, g.glass(40, 0, 0, 0));
            e.due("body", -5, g.body());
            e.due("law", -5, Edges.law(g, "late 1"));
            e.due("sighting", -5, g.sighting(0, 0, 0, 0));
            e.due("spot", -5, g.spot(40, 0, 0));
            e.due("wish", -5, g.wish(0, 0, 0, 0, 0, 0));
            e.due("how many", before + 6, g.count(11));
        });
        e.edge("I", "-6 a TEXT, a ROW that can't be", () -> {
            LateGlass g = new LateGlass();
            e.due("a text", -6, Edges.law(g, "late"));
            e.due("an empty text", -6, g.law());
            e.due("a row", -6, g.row());
            e.due("how many", 3, g.count(12));
        });
        e.edge("I", "The first of these in that order.", () -> {
            LateGlass g = full();
            e.due("wall -1, -3", -1, g.wall(0, 2));
            e.due("glass -1, -3, -5", -1, g.glass(0, 6, 0, 0));
            e.due("glass -3, -5", -3, g.glass(0, 0, 0, 0));
            e.due("turn -1, -2", -1, g.turn(6, 0, 6));
            e.due("stay -1, -2, -3", -1, g.stay(5, 1, 0, 63));
            e.due("stay -1, -3", -1, g.stay(0, 1, 0, 63));
            e.due("stay -2, -3", -2, g.stay(5, 0, 0, 63));
            e.due("law -5, -6", -5, g.law());
            e.due("sighting -1, -5", -1, g.sighting(0, 0, 0, 2));
            e.due("spot -1, -3, -5", -1, g.spot(63, 0, 24));
            e.due("spot -3, -5", -3, g.spot(63, 0, 0));
            e.due("wish -1, -5", -1, g.wish(0, 0, 0, 0, 0, 2));
            e.due("wander -1, -3", -1, g.wander(-1, 63));
            e.due("back -1, -2", -1, g.back(2));
        });
    }

    private static void law(LateGlass g) {
        Edges.law(g, "late 1");
    }

    /** There is room for nothing more; 63 is a wall. */
    private static LateGlass full() {
        LateGlass g = new LateGlass();
        for (int i = 0; i < 10; i++) {
            g.glass(i, 0, 0, 0);
            g.body();
            law(g);
            g.sighting(0, 0, 0, i % 2);
            g.spot(20 + i, 0, 0);
            g.wish(0, 0, 0, 0, 0, 0);
        }
        g.wall(63, 1);
        return g;
    }

    /** Of two houses alike one gets calls that are refused: they are alike still. */
    private static void refusedCallsChangeNothing(Edges e) {
        e.edge("I", "REFUSED by:", () -> {
            for (int kind = 0; kind < 17; kind++) {
                LateGlass tried = furnishedAndFull();
                LateGlass other = furnishedAndFull();
                e.hold("call " + kind + " is refused", refusedCall(tried, kind) < 0);
                alike(e, "after refused call " + kind, tried, other);
            }
        });
    }

    private static LateGlass furnishedAndFull() {
        LateGlass g = full();
        g.stay(0, 0, 23, 56);
        g.stay(1, 3, 9, 58);
        g.turn(2, 0, 3);
        g.turn(3, 3, 6);
        g.least(7);
        g.start(0);
        g.force(1);
        g.wander(5, 0);
        Edges.feed(g, 9, 9, 9);
        return g;
    }

    private static int refusedCall(LateGlass g, int kind) {
        switch (kind) {
            case 0: return g.wall(56, 1);
            case 1: return g.glass(40, 0, 0, 0);
            case 2: return g.turn(0, 0, 6);
            case 3: return g.body();
            case 4: return g.stay(0, 0, 23, 63);
            case 5: return g.least(1000001);
            case 6: return g.turn(6, 0, 0);
            case 7: return g.force(6);
            case 8: return g.sighting(0, 0, 0, 0);
            case 9: return g.drop(10);
            case 10: return g.start(63);
            case 11: return g.spot(40, 0, 0);
            case 12: return g.wish(0, 0, 0, 0, 0, 0);
            case 13: return g.wander(3, 63);
            case 14: return g.image(2);
            case 15: return g.back(0);
            default: return g.stay(0, 5, 4, 3);
        }
    }

    private static void alike(Edges e, String when, LateGlass a, LateGlass b) {
        for (int what = 0; what <= 13; what++) {
            if (what < 8 || what > 12) {
                e.due(when + " count " + what, b.count(what), a.count(what));
            }
        }
        for (int i = 0; i < 6; i++) {
            for (int what = 0; what < 5; what++) {
                e.due(when + " of " + i + " " + what, b.of(i, what), a.of(i, what));
            }
            for (int hour = 0; hour < 24 && i < 5; hour++) {
                e.due(when + " where " + i, b.where(i, hour), a.where(i, hour));
            }
        }
        for (int hour = 0; hour < 24; hour++) {
            e.due(when + " drawn", b.drawn(hour), a.drawn(hour));
        }
        e.due(when + " fits", b.fits(), a.fits());
        e.due(when + " core", b.core(), a.core());
        e.due(when + " lacks", b.lacks(255), a.lacks(255));
        e.due(when + " look", b.look(8, NORTH, 9, 2), a.look(8, NORTH, 9, 2));
        e.due(when + " faded", b.faded(), a.faded());
        e.due(when + " fault", b.fault(), a.fault());
        e.due(when + " start", b.start(NONE), a.start(NONE));
        e.due(when + " least", b.least(0), a.least(0));
    }
}
