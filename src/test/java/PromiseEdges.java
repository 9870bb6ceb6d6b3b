/** Each promise's own cases. */
final class PromiseEdges {
    private static final int NONE = Edges.NONE;
    private static final int NORTH = Edges.NORTH;
    private static final int EAST = Edges.EAST;
    private static final int SOUTH = Edges.SOUTH;
    private static final int WEST = Edges.WEST;

    private PromiseEdges() {
    }

    static void add(Edges e) {
        house(e);
        bodies(e);
        tape(e);
        laws(e);
        looks(e);
        seeing(e);
        sightings(e);
        rows(e);
        spots(e);
        walking(e);
        wandering(e);
        images(e);
        counting(e);
    }

    private static void house(Edges e) {
        e.edge("1", "No WALLS, GLASSES, BODIES.", () -> {
            LateGlass g = new LateGlass();
            e.due("walls", 0, g.count(6));
            e.due("glasses", 0, g.count(0));
            e.due("bodies", 0, g.count(1));
            for (int what = 2; what <= 12; what++) {
                e.due("count " + what, 0, g.count(what));
            }
            e.due("force", NONE, g.count(13));
        });
        e.edge("2", "A CELL is a WALL (1) or not (0): what it was.", () -> {
            LateGlass g = new LateGlass();
            e.due("it was none", 0, g.wall(5, 1));
            e.due("it was one", 1, g.wall(5, 1));
            e.due("it was one", 1, g.wall(5, 0));
            e.due("it was none", 0, g.wall(5, 0));
            e.due("it was none", 0, g.wall(5, 1));
        });
        e.edge("2", "-1;", () -> {
            LateGlass g = new LateGlass();
            for (int[] bad : new int[][] {{-1, 1}, {64, 1}, {5, -1}, {5, 2}, {Edges.MIN, 0}, {0, Edges.MAX}}) {
                e.due(bad[0] + " " + bad[1], -1, g.wall(bad[0], bad[1]));
            }
            e.due("none came", 0, g.count(6));
        });
        e.edge("2", "-3 a GLASS", () -> {
            LateGlass g = new LateGlass();
            g.glass(9, 0, 0, 0);
            e.due(-3, g.wall(9, 1));
            e.due("not to be one, either", -3, g.wall(9, 0));
            e.due("beside it", 0, g.wall(10, 1));
        });
        e.edge("2", "a BODY in some HOUR", () -> {
            for (int hour : new int[] {0, 11, 23}) {
                LateGlass g = new LateGlass();
                g.body();
                g.body();
                g.stay(1, hour, hour, 9);
                e.due("in hour " + hour, -3, g.wall(9, 1));
                g.stay(0, hour, hour, 9);
                g.stay(1, hour, hour, NONE);
                e.due("another one is still there", -3, g.wall(9, 1));
                g.stay(0, hour, hour, NONE);
                e.due("both are gone", 0, g.wall(9, 1));
            }
        });
        e.edge("2", "a SPOT", () -> {
            LateGlass g = new LateGlass();
            g.spot(9, 0, 0);
            g.spot(11, 0, 0);
            e.due(-3, g.wall(9, 1));
            e.due(-3, g.wall(11, 1));
            e.due("between them", 0, g.wall(10, 1));
        });
        e.edge("2", "the START is there", () -> {
            LateGlass g = new LateGlass();
            g.start(0);
            e.due(-3, g.wall(0, 1));
            g.start(1);
            e.due("it is there no more", 0, g.wall(0, 1));
        });
        e.edge("3", "A GLASS: its number.", () -> {
            LateGlass g = new LateGlass();
            e.due(0, g.glass(0, 0, 0, 0));
            e.due(1, g.glass(63, 5, 23, 10));
            int[] are = {63, 5, 23, 10, 0};
            for (int what = 0; what < 5; what++) {
                e.due("of " + what, are[what], g.of(1, what));
            }
        });
        e.edge("3", "-1;", () -> {
            LateGlass g = new LateGlass();
            for (int[] bad : new int[][] {{-1, 0, 0, 0}, {64, 0, 0, 0}, {0, -1, 0, 0}, {0, 6, 0, 0}, {0, 0, -1, 0},
                {0, 0, 24, 0}, {0, 0, 0, -1}, {0, 0, 0, 11}}) {
                e.due(-1, g.glass(bad[0], bad[1], bad[2], bad[3]));
            }
            e.due("none came", 0, g.count(0));
        });
        e.edge("3", "-3 a WALL, a GLASS, a SPOT is there", () -> {
            LateGlass g = new LateGlass();
            g.wall(0, 1);
            g.glass(1, 0, 0, 0);
            g.spot(2, 0, 0);
            g.body();
            g.stay(0, 0, 23, 3);
            g.start(4);
            e.due("a wall", -3, g.glass(0, 0, 0, 0));
            e.due("a glass", -3, g.glass(1, 0, 0, 0));
            e.due("a spot", -3, g.glass(2, 0, 0, 0));
            e.due("a body is nothing", 1, g.glass(3, 0, 0, 0));
            e.due("the start is nothing", 2, g.glass(4, 0, 0, 0));
        });
        e.edge("3", "-5", () -> {
            LateGlass g = new LateGlass();
            for (int i = 0; i < 6; i++) {
                e.due(i, g.glass(i, 0, 0, 0));
            }
            e.due(-5, g.glass(6, 0, 0, 0));
            e.due(-5, g.status());
            e.due("of what was there", 5, g.of(5, 0));
        });
        e.edge("4", "SORT (what 0), LATE (1), DUST (2), HOURS in which it is COVERED (3, bits) of a GLASS: what it was.", () -> {
            LateGlass g = new LateGlass();
            g.glass(9, 1, 2, 3);
            g.glass(10, 1, 2, 3);
            e.due("sort", 1, g.turn(1, 0, 4));
            e.due("late", 2, g.turn(1, 1, 5));
            e.due("dust", 3, g.turn(1, 2, 6));
            e.due("covered", 0, g.turn(1, 3, 7));
            int[] are = {10, 4, 5, 6, 7};
            int[] other = {9, 1, 2, 3, 0};
            for (int what = 0; what < 5; what++) {
                e.due("of it " + what, are[what], g.of(1, what));
                e.due("of the other " + what, other[what], g.of(0, what));
            }
        });
        e.edge("4", "-1; -2.", () -> {
            LateGlass g = new LateGlass();
            g.glass(9, 1, 2, 3);
            for (int[] bad : new int[][] {{-1, 0}, {4, 0}, {Edges.MIN, 0}, {Edges.MAX, 0}, {0, -1}, {0, 6}, {1, -1},
                {1, 24}, {2, -1}, {2, 11}, {3, -1}, {3, 1 << 24}}) {
                e.due("what " + bad[0] + " value " + bad[1], -1, g.turn(0, bad[0], bad[1]));
            }
            for (int bad : new int[] {-1, 1, 5, 6, Edges.MIN, Edges.MAX}) {
                e.due("glass " + bad, -2, g.turn(bad, 0, 0));
            }
            e.due("it is as it was", 1, g.of(0, 1));
        });
        e.edge("5", "Of a GLASS 0 CELL, 1 SORT, 2 LATE, 3 DUST, 4 COVERED. NONE.", () -> {
            LateGlass g = new LateGlass();
            e.due("no glass at all", NONE, g.of(0, 0));
            g.glass(9, 1, 2, 3);
            g.turn(0, 3, 4);
            int[] are = {9, 1, 2, 3, 4};
            for (int what = 0; what < 5; what++) {
                e.due("of " + what, are[what], g.of(0, what));
            }
            for (int bad : new int[] {-1, 5, Edges.MIN, Edges.MAX}) {
                e.due("what " + bad, NONE, g.of(0, bad));
            }
            for (int bad : new int[] {-1, 1, 6, Edges.MIN, Edges.MAX}) {
                e.due("glass " + bad, NONE, g.of(bad, 0));
            }
        });
    }

    private static void bodies(Edges e) {
        e.edge("6", "A BODY, out in all HOURS: its number. -5.", () -> {
            LateGlass g = new LateGlass();
            for (int i = 0; i < 5; i++) {
                e.due(i, g.body());
                for (int hour = 0; hour < 24; hour++) {
                    e.due("out", NONE, g.where(i, hour));
                }
            }
            e.due(-5, g.body());
            e.due(-5, g.status());
            e.due(5, g.count(1));
        });
        e.edge("6", "A BODY, out in all HOURS", () -> {
            LateGlass g = new LateGlass();
            g.image(0);
            g.body();
            g.stay(0, 0, 23, 5);
            g.back(0);
            g.body();
            e.due("not where one was that is gone", NONE, g.where(0, 7));
            e.due("not seen there, either", 0, g.sees(0, 7));
        });
        e.edge("7", "A BODY is in a CELL (NONE: out) in HOURS from .. to: 0.", () -> {
            LateGlass g = new LateGlass();
            g.body();
            e.due(0, g.stay(0, 3, 5, 9));
            e.due("ahead", NONE, g.where(0, 2));
            e.due("from", 9, g.where(0, 3));
            e.due("between", 9, g.where(0, 4));
            e.due("to", 9, g.where(0, 5));
            e.due("behind", NONE, g.where(0, 6));
            e.due("one hour", 0, g.stay(0, 4, 4, NONE));
            e.due("out", NONE, g.where(0, 4));
            e.due("still there", 9, g.where(0, 5));
            e.due("all hours", 0, g.stay(0, 0, 23, 63));
            e.due("all hours", 63, g.where(0, 0));
            e.due("all hours", 63, g.where(0, 23));
        });
        e.edge("7", "-1 (to ahead of from, too)", () -> {
            LateGlass g = new LateGlass();
            g.body();
            e.due("to ahead of from", -1, g.stay(0, 5, 4, 9));
            for (int[] bad : new int[][] {{-1, 5, 9}, {24, 24, 9}, {0, 24, 9}, {0, -1, 9}, {0, 0, -2}, {0, 0, 64}}) {
                e.due(-1, g.stay(0, bad[0], bad[1], bad[2]));
            }
            for (int hour = 0; hour < 24; hour++) {
                e.due("nowhere", NONE, g.where(0, hour));
            }
        });
        e.edge("7", "-2;", () -> {
            LateGlass g = new LateGlass();
            e.due("no body", -2, g.stay(0, 0, 0, 9));
            g.body();
            e.due("there is one", 0, g.stay(0, 0, 0, 9));
            for (int bad : new int[] {-1, 1, 5, Edges.MIN, Edges.MAX}) {
                e.due("body " + bad, -2, g.stay(bad, 0, 0, 9));
            }
        });
        e.edge("7", "-3 a WALL", () -> {
            LateGlass g = new LateGlass();
            g.body();
            g.wall(0, 1);
            g.wall(63, 1);
            e.due(-3, g.stay(0, 0, 0, 0));
            e.due(-3, g.stay(0, 0, 0, 63));
            e.due("out can be", 0, g.stay(0, 0, 0, NONE));
            g.glass(9, 0, 0, 0);
            g.spot(10, 0, 0);
            e.due("a glass is nothing", 0, g.stay(0, 0, 0, 9));
            e.due("a spot is nothing", 0, g.stay(0, 0, 0, 10));
        });
        e.edge("8", "Where a BODY is in an HOUR. NONE.", () -> {
            LateGlass g = new LateGlass();
            e.due("no body", NONE, g.where(0, 0));
            g.body();
            g.stay(0, 0, 23, 0);
            e.due("cell 0", 0, g.where(0, 0));
            for (int bad : new int[] {-1, 24, Edges.MIN, Edges.MAX}) {
                e.due("hour " + bad, NONE, g.where(0, bad));
            }
            for (int bad : new int[] {-1, 1, 5, Edges.MIN, Edges.MAX}) {
                e.due("body " + bad, NONE, g.where(bad, 0));
            }
        });
        e.edge("9", "LEAST: what it was. -1.", () -> {
            LateGlass g = new LateGlass();
            e.due(1000, g.least(0));
            e.due(0, g.least(1000000));
            for (int bad : new int[] {-1, 1000001, Edges.MIN, Edges.MAX}) {
                e.due("" + bad, -1, g.least(bad));
            }
            e.due("it stays", 1000000, g.least(7));
        });
    }

    private static void tape(Edges e) {
        e.edge("10", "Twenty bytes come behind the TAPE, four of each number, the highest first: how many it has.", () -> {
            LateGlass g = new LateGlass();
            for (int i = 0; i < 4; i++) {
                g.body();
            }
            e.due(20, g.feed(0x00010109, 0x0102020A, 0x0203030B, 0x0304040C, 0x000505FF));
            e.due(40, g.feed(0x00060610, 0xFFFFFFFF, 0x80000000, 0x7FFFFFFF, 0x00070711));
            e.due("seven of ten come", 7, g.row());
            e.due(9, g.where(0, 1));
            e.due(10, g.where(1, 2));
            e.due(11, g.where(2, 3));
            e.due(12, g.where(3, 4));
            e.due(16, g.where(0, 6));
            e.due(17, g.where(0, 7));
        });
        e.edge("10", "NONE, if there would be more than 400.", () -> {
            LateGlass g = new LateGlass();
            for (int i = 0; i < 19; i++) {
                g.feed(0, 0, 0, 0, 0);
            }
            e.due("just 400", 400, g.feed(0, 0, 0, 0, 0));
            e.due("420", NONE, g.feed(0, 0, 0, 0, 0));
            g.end(381);
            e.due("401", NONE, g.feed(0, 0, 0, 0, 0));
            e.due("it stays", 381, g.count(7));
            g.end(380);
            e.due("just 400", 400, g.feed(0, 0, 0, 0, 0));
            e.due("no refusal", 0, g.status());
        });
        e.edge("11", "The TAPE has its first n bytes alone: n.", () -> {
            LateGlass g = new LateGlass();
            g.body();
            g.feed(0x00010109, 0x0002020A, 0x0003030B, 0, 0);
            e.due(8, g.end(8));
            e.due("how many", 8, g.count(7));
            e.due("all of them", 8, g.end(8));
            e.due("what comes then is behind", 28, g.feed(0x0004040C, 0, 0, 0, 0));
            g.end(12);
            e.due("three", 3, g.row());
            e.due("the first", 9, g.where(0, 1));
            e.due("cut off", NONE, g.where(0, 3));
            e.due("behind", 12, g.where(0, 4));
            e.due("none of none", 0, g.end(0));
        });
        e.edge("11", "NONE, if it has not so many, or n is below 0.", () -> {
            LateGlass g = new LateGlass();
            e.due("an empty one", NONE, g.end(1));
            g.feed(0, 0, 0, 0, 0);
            e.due("one more", NONE, g.end(21));
            e.due("below 0", NONE, g.end(-1));
            e.due("below 0", NONE, g.end(Edges.MIN));
            e.due("far more", NONE, g.end(Edges.MAX));
            e.due("it stays", 20, g.count(7));
            e.due("no refusal", 0, g.status());
        });
        e.edge("12", "A ROW of STAYS, the TAPE is empty then: how many came.", () -> {
            LateGlass g = new LateGlass();
            g.body();
            Edges.feed(g, 0, 1, 1, 9, 1, 1, 1, 9, 0, 2, 2, 10);
            e.due("two of three", 2, g.row());
            e.due("empty then", 0, g.count(7));
            Edges.feed(g, 9);
            e.due("none", 0, g.row());
            e.due("empty then, too", 0, g.count(7));
            int[] hundred = new int[400];
            for (int i = 0; i < 400; i++) {
                hundred[i] = i % 4 == 0 ? 0 : i % 4 == 3 ? 5 : 7;
            }
            Edges.feed(g, hundred);
            e.due("a hundred", 100, g.row());
        });
        e.edge("12", "-6 the TAPE is empty", () -> {
            LateGlass g = new LateGlass();
            e.due(-6, g.row());
            e.due(-6, g.status());
            Edges.feed(g, 1, 2, 3);
            g.end(0);
            e.due("empty again", -6, g.row());
            e.due("twice", 2, g.count(12));
        });
        e.edge("13", "How many were FADED in the latest row() that was not REFUSED (0 ahead of any).", () -> {
            LateGlass g = new LateGlass();
            e.due("ahead of any", 0, g.faded());
            g.row();
            e.due("ahead of any not refused", 0, g.faded());
            Edges.feed(g, 0, 0, 0, 0, 0);
            g.row();
            e.due("no body there, and one within which the tape ends", 2, g.faded());
            g.row();
            e.due("a refused one is nothing", 2, g.faded());
            g.body();
            Edges.feed(g, 0, 0, 0, 0);
            g.row();
            e.due("the latest", 0, g.faded());
            int[] all = new int[397];
            java.util.Arrays.fill(all, 77);
            Edges.feed(g, all);
            g.row();
            e.due("a hundred", 100, g.faded());
        });
    }

    private static void laws(Edges e) {
        e.edge("14", "The TAPE, which is empty then, becomes a LAW: its number.", () -> {
            LateGlass g = new LateGlass();
            e.due(0, Edges.law(g, "late 1"));
            e.due("empty then", 0, g.count(7));
            e.due(1, Edges.law(g, "late 2"));
            e.due("how many", 2, g.count(2));
            Edges.law(g, "no law");
            e.due("empty then, too", 0, g.count(7));
            e.due(2, Edges.law(g, "late 3"));
        });
        e.edge("14", "-5 (ahead of reading it; the TAPE is empty then, too)", () -> {
            LateGlass g = new LateGlass();
            for (int i = 0; i < 6; i++) {
                Edges.law(g, "late 1");
            }
            Edges.law(g, "late 1");
            e.due("a seventh", -5, g.status());
            e.due("the tape is empty then", 0, g.count(7));
            e.due("no text was read", -5, Edges.law(g, "no law"));
            e.due("no text was read", NONE, g.fault());
            e.due("an empty tape", -5, g.law());
            e.due("none of -6", 0, g.count(12));
            e.due("three of -5", 3, g.count(11));
        });
        e.edge("14", "-6 (blanks alone: FAULT at the end)", () -> {
            LateGlass g = new LateGlass();
            e.due("blanks", -6, Edges.law(g, "    "));
            e.due("at the end", 4, g.fault());
            e.due("400 blanks", -6, Edges.law(g, " ".repeat(400)));
            e.due("at the end", 400, g.fault());
            e.due("empty", -6, g.law());
            e.due("at the end", 0, g.fault());
            e.due("no law came", 0, g.count(2));
            e.due("three of -6", 3, g.count(12));
        });
        e.edge("15", "FAULT of the latest law() that read a TEXT: its place; NONE without.", () -> {
            LateGlass g = new LateGlass();
            e.due("ahead of any", NONE, g.fault());
            Edges.law(g, "late ?");
            e.due("its place", 5, g.fault());
            g.row();
            g.image(0);
            e.due("it stays", 5, g.fault());
            Edges.law(g, "late");
            e.due("the latest", 4, g.fault());
            Edges.law(g, "late 1");
            e.due("none in a law", NONE, g.fault());
            Edges.law(g, "?");
            for (int i = 0; i < 5; i++) {
                Edges.law(g, "late 1");
            }
            Edges.law(g, "late ?");
            e.due("no room: no text was read", NONE, g.fault());
        });
        e.edge("16", "A LAW is in FORCE (NONE: none): which was.", () -> {
            LateGlass g = new LateGlass();
            Edges.law(g, "late 1");
            Edges.law(g, "late 2");
            e.due("none was", NONE, g.force(0));
            e.due("0 was", 0, g.force(1));
            e.due("1 was", 1, g.force(1));
            e.due("1 was", 1, g.force(NONE));
            e.due("none was", NONE, g.force(NONE));
        });
        e.edge("16", "-2.", () -> {
            LateGlass g = new LateGlass();
            e.due("there is none", -2, g.force(0));
            Edges.law(g, "late 1");
            g.force(0);
            for (int bad : new int[] {1, 5, 6, -2, Edges.MIN, Edges.MAX}) {
                e.due("law " + bad, -2, g.force(bad));
            }
            e.due("it stays", 0, g.count(13));
        });
    }

    private static void looks(Edges e) {
        e.edge("17", "A LOOK from a CELL (a WALL, too), a WAY, an HOUR", () -> {
            LateGlass g = new LateGlass();
            g.wall(0, 1);
            e.due(7, g.look(0, EAST, 5, 1));
            e.due(64 * 5 + 1, g.point(0, EAST, 5, 0));
        });
        e.edge("17", "the BODY that is SEEN (what 0)", () -> {
            LateGlass g = new LateGlass();
            g.body();
            g.body();
            e.due("nobody", NONE, g.look(0, EAST, 5, 0));
            g.stay(1, 5, 5, 7);
            e.due("one", 1, g.look(0, EAST, 5, 0));
        });
        e.edge("17", "how many POINTS (1), the HOUR at the last of them (2), bright in the end (3)", () -> {
            LateGlass g = new LateGlass();
            g.glass(7, 5, 2, 3);
            e.due("points", 14, g.look(0, EAST, 5, 1));
            e.due("hour", 3, g.look(0, EAST, 5, 2));
            e.due("bright", 700000, g.look(0, EAST, 5, 3));
        });
        e.edge("17", "GLASSES by which it went on, as bits (4)", () -> {
            LateGlass g = new LateGlass();
            g.glass(40, 0, 0, 0);
            g.glass(7, 1, 0, 0);
            g.glass(41, 0, 0, 0);
            g.glass(63, 0, 0, 0);
            g.glass(42, 0, 0, 0);
            g.glass(56, 2, 0, 0);
            e.due("1 and 3, not 5 where it ends", 2 + 8, g.look(0, EAST, 5, 4));
            e.due("none", 0, g.look(8, EAST, 5, 4));
            g.turn(5, 0, 3);
            e.due("5, too, and back", 2 + 8 + 32, g.look(0, EAST, 5, 4));
        });
        e.edge("17", "NONE (no POINT for 2, too)", () -> {
            LateGlass g = new LateGlass();
            e.due("no point", NONE, g.look(0, NORTH, 5, 2));
            e.due("no point: how many", 0, g.look(0, NORTH, 5, 1));
            for (int[] bad : new int[][] {{-1, 1, 5, 1}, {64, 1, 5, 1}, {0, -1, 5, 1}, {0, 4, 5, 1}, {0, 1, -1, 1},
                {0, 1, 24, 1}, {0, 1, 5, -1}, {0, 1, 5, 5}, {0, 1, 5, Edges.MIN}, {0, 1, 5, Edges.MAX}}) {
                e.due(NONE, g.look(bad[0], bad[1], bad[2], bad[3]));
            }
        });
        e.edge("18", "The i-th POINT of a LOOK: 64 times its HOUR and its CELL. NONE.", () -> {
            LateGlass g = new LateGlass();
            e.due("the first", 64 * 23 + 62, g.point(63, WEST, 23, 0));
            e.due("the last", 64 * 23 + 56, g.point(63, WEST, 23, 6));
            e.due("behind it", NONE, g.point(63, WEST, 23, 7));
            e.due("ahead of it", NONE, g.point(63, WEST, 23, -1));
            e.due("far behind", NONE, g.point(63, WEST, 23, Edges.MAX));
            e.due("far ahead", NONE, g.point(63, WEST, 23, Edges.MIN));
            e.due("of none", NONE, g.point(63, EAST, 23, 0));
            e.due("hour 0, cell 0", 0, g.point(1, WEST, 0, 0));
            for (int[] bad : new int[][] {{-1, 3, 5}, {64, 3, 5}, {63, -1, 5}, {63, 4, 5}, {63, 3, -1}, {63, 3, 24}}) {
                e.due(NONE, g.point(bad[0], bad[1], bad[2], 0));
            }
        });
    }

    private static void seeing(Edges e) {
        e.edge("19", "BODIES that are SEEN from a CELL in an HOUR, as bits. NONE.", () -> {
            LateGlass g = new LateGlass();
            e.due("nobody there", 0, g.sees(27, 5));
            for (int i = 0; i < 5; i++) {
                g.body();
            }
            g.stay(0, 5, 5, 3);
            g.stay(1, 5, 5, 24);
            g.stay(2, 5, 5, 27);
            g.stay(3, 5, 5, 31);
            g.stay(4, 5, 5, 59);
            e.due("all four ways, not the cell itself", 1 + 2 + 8 + 16, g.sees(27, 5));
            g.wall(28, 1);
            e.due("not behind a wall", 1 + 2 + 16, g.sees(27, 5));
            e.due("from a wall", 4 + 8, g.sees(28, 5));
            for (int[] bad : new int[][] {{-1, 5}, {64, 5}, {27, -1}, {27, 24}}) {
                e.due(NONE, g.sees(bad[0], bad[1]));
            }
        });
        e.edge("20", "How LATE a BODY SEES another one (itself, too) in an HOUR.", () -> {
            LateGlass g = new LateGlass();
            g.body();
            g.body();
            g.stay(0, 0, 23, 0);
            g.stay(1, 3, 3, 2);
            g.glass(4, 5, 2, 0);
            e.due("at once", 0, g.late(0, 1, 3));
            e.due("two hours late, though it is out by then", 2, g.late(0, 1, 5));
            e.due("itself", 2, g.late(0, 0, 7));
            e.due("the other way", 0, g.late(1, 0, 3));
        });
        e.edge("20", "NONE (it does not, is out, too)", () -> {
            LateGlass g = new LateGlass();
            g.body();
            g.body();
            g.stay(0, 3, 3, 0);
            g.stay(1, 0, 23, 2);
            e.due("it sees", 0, g.late(0, 1, 3));
            e.due("it is out", NONE, g.late(0, 1, 4));
            e.due("the other one is out", NONE, g.late(1, 0, 4));
            e.due("it does not see itself", NONE, g.late(0, 0, 3));
            g.wall(1, 1);
            e.due("it does not", NONE, g.late(0, 1, 3));
            g.wall(1, 0);
            for (int[] bad : new int[][] {{-1, 1, 3}, {2, 1, 3}, {0, -1, 3}, {0, 2, 3}, {0, 1, -1}, {0, 1, 24},
                {Edges.MIN, 1, 3}, {0, Edges.MAX, 3}}) {
                e.due(NONE, g.late(bad[0], bad[1], bad[2]));
            }
        });
        e.edge("21", "When a BODY was SEEN first by another BODY: the HOUR (what 0), by whom (the lowest; 1), how LATE (2).", () -> {
            LateGlass g = new LateGlass();
            for (int i = 0; i < 5; i++) {
                g.body();
            }
            g.stay(2, 0, 23, 3);
            g.stay(4, 6, 6, 0);
            g.stay(3, 7, 7, 0);
            e.due("the hour", 6, g.first(2, 0));
            e.due("by whom", 4, g.first(2, 1));
            e.due("how late", 0, g.first(2, 2));
            g.stay(3, 6, 6, 7);
            e.due("of two the lower", 3, g.first(2, 1));
            g.stay(1, 0, 0, 0);
            e.due("in hour 0", 0, g.first(2, 0));
            e.due("by 1", 1, g.first(2, 1));
            g.stay(0, 0, 0, 7);
            e.due("by 0", 0, g.first(2, 1));
            LateGlass late = new LateGlass();
            late.body();
            late.body();
            late.stay(0, 1, 1, 3);
            late.stay(1, 23, 23, 2);
            late.glass(7, 5, 22, 0);
            e.due("the hour of him who sees", 23, late.first(0, 0));
            e.due("how late", 22, late.first(0, 2));
        });
        e.edge("21", "by another BODY", () -> {
            LateGlass g = new LateGlass();
            g.body();
            g.stay(0, 0, 23, 0);
            g.glass(7, 5, 0, 0);
            e.due("itself is seen", 0, g.late(0, 0, 5));
            e.due("but not by another one", NONE, g.first(0, 0));
        });
        e.edge("21", "NONE (never, too)", () -> {
            LateGlass g = new LateGlass();
            e.due("no body", NONE, g.first(0, 0));
            g.body();
            g.body();
            g.stay(0, 0, 23, 0);
            for (int what = 0; what < 3; what++) {
                e.due("never " + what, NONE, g.first(0, what));
            }
            g.stay(1, 0, 23, 1);
            e.due("now", 0, g.first(0, 0));
            for (int[] bad : new int[][] {{-1, 0}, {2, 0}, {0, -1}, {0, 3}, {Edges.MIN, 0}, {0, Edges.MAX}}) {
                e.due(NONE, g.first(bad[0], bad[1]));
            }
        });
        e.edge("22", "How many CELLS are POINTS of a LOOK from a CELL in an HOUR, with any HOUR (what NONE)", () -> {
            LateGlass g = new LateGlass();
            e.due("four ways", 14, g.lit(27, 5, NONE));
            e.due("from a corner", 14, g.lit(0, 5, NONE));
            g.glass(31, 5, 5, 0);
            e.due("its own cell over a glass, in hour 0", 15, g.lit(27, 5, NONE));
            e.due("each cell once", 14, g.lit(27, 4, NONE));
            LateGlass walled = Edges.only(27);
            e.due("none", 0, walled.lit(27, 5, NONE));
        });
        e.edge("22", "whether CELL what is (1, 0)", () -> {
            LateGlass g = new LateGlass();
            e.due("one", 1, g.lit(0, 5, 63 - 56));
            e.due("none", 0, g.lit(0, 5, 63));
            e.due("not itself", 0, g.lit(0, 5, 0));
            g.glass(7, 5, 5, 0);
            e.due("itself, in hour 0", 1, g.lit(0, 5, 0));
            g.wall(3, 1);
            e.due("no wall", 0, g.lit(0, 5, 3));
        });
        e.edge("22", "NONE.", () -> {
            LateGlass g = new LateGlass();
            for (int[] bad : new int[][] {{-1, 5, 0}, {64, 5, 0}, {0, -1, 0}, {0, 24, 0}, {0, 5, -2}, {0, 5, 64},
                {-1, 5, NONE}, {0, 24, NONE}}) {
                e.due(NONE, g.lit(bad[0], bad[1], bad[2]));
            }
        });
        e.edge("23", "How many HOURS of a CELL nobody SEES: CELL and HOUR are no POINT of any LOOK of a BODY in any HOUR.", () -> {
            LateGlass g = new LateGlass();
            e.due("nobody", 24, g.unseen(7));
            g.body();
            e.due("one who is out", 24, g.unseen(7));
            g.stay(0, 0, 0, 0);
            g.stay(0, 23, 23, 0);
            e.due("in hours 0 and 23", 22, g.unseen(7));
            e.due("where he is", 24, g.unseen(0));
            g.glass(7, 5, 3, 0);
            e.due("in hour 20, too", 21, g.unseen(6));
            e.due("the glass itself", 22, g.unseen(7));
            e.due("his own cell, later", 23, g.unseen(0));
            g.stay(0, 0, 23, 0);
            e.due("always", 0, g.unseen(6));
            g.wall(6, 1);
            e.due("a wall", 24, g.unseen(6));
            LateGlass cross = new LateGlass();
            cross.body();
            cross.stay(0, 4, 5, 27);
            for (int cell : new int[] {3, 31, 59, 24}) {
                e.due("all four ways, to " + cell, 22, cross.unseen(cell));
            }
            e.due("not across", 24, cross.unseen(0));
        });
        e.edge("23", "NONE.", () -> {
            LateGlass g = new LateGlass();
            for (int bad : new int[] {-1, 64, Edges.MIN, Edges.MAX}) {
                e.due("" + bad, NONE, g.unseen(bad));
            }
        });
    }

    private static void sightings(Edges e) {
        e.edge("24", "A SIGHTING: SEEN (1) or not (0) by a LOOK: how many there are. -1;", () -> {
            LateGlass g = new LateGlass();
            e.due(1, g.sighting(0, EAST, 0, 1));
            e.due(2, g.sighting(63, WEST, 23, 0));
            for (int[] bad : new int[][] {{-1, 0, 0, 0}, {64, 0, 0, 0}, {0, -1, 0, 0}, {0, 4, 0, 0}, {0, 0, -1, 0},
                {0, 0, 24, 0}, {0, 0, 0, -1}, {0, 0, 0, 2}}) {
                e.due(-1, g.sighting(bad[0], bad[1], bad[2], bad[3]));
            }
            e.due("two still", 2, g.count(3));
        });
        e.edge("24", "-5 (a sixth SEEN, too)", () -> {
            LateGlass g = new LateGlass();
            for (int i = 0; i < 5; i++) {
                g.sighting(0, EAST, 0, 1);
            }
            e.due("a sixth", -5, g.sighting(0, EAST, 0, 1));
            e.due(-5, g.status());
            for (int i = 6; i <= 10; i++) {
                e.due(i, g.sighting(0, EAST, 0, 0));
            }
            e.due("an eleventh", -5, g.sighting(0, EAST, 0, 0));
            e.due("ten still", 10, g.count(3));
        });
        e.edge("25", "A SIGHTING goes, those behind it move up: how many are left.", () -> {
            LateGlass g = Edges.only(0, 1);
            g.sighting(0, EAST, 3, 1);
            g.sighting(0, EAST, 4, 0);
            g.sighting(0, EAST, 5, 1);
            e.due("the middle one", 2, g.drop(1));
            e.due("hour 4 is free", NONE, g.surely(4));
            e.due("hour 3 is not", 1, g.surely(3));
            e.due("hour 5 is not", 1, g.surely(5));
            e.due("the third is the second now", 1, g.drop(1));
            e.due("hour 5 is free", NONE, g.surely(5));
            e.due("hour 3 is not", 1, g.surely(3));
            e.due("the first", 0, g.drop(0));
            e.due("all is free", 1L << 24, g.fits());
        });
        e.edge("25", "-2.", () -> {
            LateGlass g = new LateGlass();
            e.due("none there", -2, g.drop(0));
            g.sighting(0, EAST, 0, 1);
            for (int bad : new int[] {-1, 1, 9, 10, Edges.MIN, Edges.MAX}) {
                e.due("" + bad, -2, g.drop(bad));
            }
            e.due("the last", 0, g.drop(0));
            e.due("none there", -2, g.drop(0));
        });
        e.edge("26", "START: what it was. -1; -3 a WALL.", () -> {
            LateGlass g = new LateGlass();
            e.due("none", NONE, g.start(0));
            e.due("0", 0, g.start(63));
            for (int bad : new int[] {-2, 64, Edges.MIN, Edges.MAX}) {
                e.due("" + bad, -1, g.start(bad));
            }
            g.wall(5, 1);
            e.due("a wall", -3, g.start(5));
            e.due("it stays", 63, g.start(NONE));
            e.due("none", NONE, g.start(NONE));
            e.due("none is no refusal", 0, g.status());
        });
    }

    private static void rows(Edges e) {
        e.edge("27", "How many rows are FITTING.", () -> {
            LateGlass g = new LateGlass();
            e.due("of the empty house", 195621366975421392L, g.fits());
            LateGlass one = Edges.only(9);
            e.due("one", 1, one.fits());
            one.sighting(8, EAST, 5, 0);
            e.due("none", 0, one.fits());
            e.due("nowhere", 0, Edges.only().fits());
        });
        e.edge("28", "In how many CELLS he can be in an HOUR (cell NONE)", () -> {
            LateGlass g = new LateGlass();
            e.due("anywhere", 64, g.could(0, NONE));
            e.due("anywhere", 64, g.could(23, NONE));
            g.start(0);
            e.due("the start", 1, g.could(0, NONE));
            e.due("in hour 14 all but none", 64, g.could(14, NONE));
            e.due("in hour 13 not the far corner", 63, g.could(13, NONE));
            g.sighting(0, NORTH, 0, 1);
            e.due("none is fitting", 0, g.could(0, NONE));
        });
        e.edge("28", "how many FITTING rows have him in a CELL then", () -> {
            LateGlass g = Edges.only(0, 1);
            e.due("half of them", 1L << 23, g.could(5, 1));
            g.sighting(0, EAST, 5, 1);
            e.due("all", 1L << 23, g.could(5, 1));
            e.due("none", 0, g.could(5, 0));
            e.due("a wall", 0, g.could(5, 2));
            e.due("another hour", 1L << 22, g.could(6, 1));
        });
        e.edge("28", "NONE (an HOUR, a CELL)", () -> {
            LateGlass g = new LateGlass();
            for (int bad : new int[] {-1, 24, Edges.MIN, Edges.MAX}) {
                e.due("hour " + bad, NONE, g.could(bad, 0));
                e.due("hour " + bad, NONE, g.could(bad, NONE));
            }
            for (int bad : new int[] {-2, 64, Edges.MIN, Edges.MAX}) {
                e.due("cell " + bad, NONE, g.could(0, bad));
            }
        });
        e.edge("29", "Where he is in an HOUR in the FIRST. NONE.", () -> {
            LateGlass g = Edges.only(0, 1);
            e.due("hour 0", 0, g.path(0));
            e.due("hour 23", 0, g.path(23));
            g.sighting(0, EAST, 23, 1);
            e.due("hour 22", 0, g.path(22));
            e.due("hour 23", 1, g.path(23));
            for (int bad : new int[] {-1, 24, Edges.MIN, Edges.MAX}) {
                e.due("" + bad, NONE, g.path(bad));
            }
            g.sighting(0, EAST, 23, 0);
            e.due("none is fitting", NONE, g.path(0));
        });
        e.edge("30", "CORE, as bits of SIGHTINGS (0: some row is FITTING).", () -> {
            LateGlass g = Edges.only(0, 1);
            e.due("no sighting", 0, g.core());
            g.sighting(0, EAST, 0, 1);
            e.due("some row", 0, g.core());
            for (int i = 0; i < 8; i++) {
                g.sighting(0, EAST, 1 + i, 0);
            }
            e.due("some row", 0, g.core());
            g.sighting(0, EAST, 0, 0);
            e.due("the first and the tenth", 1 + 512, g.core());
        });
        e.edge("30", "NONE: without any SIGHTING none is.", () -> {
            LateGlass g = Edges.only();
            e.due("no cell, no sighting", NONE, g.core());
            g.sighting(0, EAST, 0, 0);
            e.due("no cell", NONE, g.core());
            g.wall(5, 0);
            e.due("a cell", 0, g.core());
        });
        e.edge("31", "Of how many FITTING rows he would be SEEN by a LOOK. NONE.", () -> {
            LateGlass g = Edges.only(0, 1);
            e.due("half of them", 1L << 23, g.tells(0, EAST, 5));
            e.due("no point", 0, g.tells(0, NORTH, 5));
            g.sighting(0, EAST, 5, 1);
            e.due("all", 1L << 23, g.tells(0, EAST, 5));
            e.due("none", 0, g.tells(1, WEST, 5));
            g.sighting(0, EAST, 5, 0);
            e.due("none is fitting", 0, g.tells(0, EAST, 5));
            for (int[] bad : new int[][] {{-1, 1, 5}, {64, 1, 5}, {0, -1, 5}, {0, 4, 5}, {0, 1, -1}, {0, 1, 24}}) {
                e.due(NONE, g.tells(bad[0], bad[1], bad[2]));
            }
        });
        e.edge("31", "Of how many FITTING rows he would be SEEN by a LOOK.", () -> {
            LateGlass g = Edges.only(0, 1);
            g.glass(1, 5, 2, 0);
            e.due("at one at least of two points", 3L << 22, g.tells(0, EAST, 9));
            for (int i = 0; i < 5; i++) {
                g.sighting(0, EAST, 0, 1);
            }
            // Five are seen already: in hour 0 it ends at the glass, so he is in 1 then.
            e.due("a sixth look", 3L << 21, g.tells(0, EAST, 9));
            e.due("the sightings stay", 5, g.count(3));
        });
        e.edge("32", "The CELL in which he is in an HOUR by all FITTING rows.", () -> {
            LateGlass g = new LateGlass();
            g.start(63);
            e.due("the start", 63, g.surely(0));
            g.start(0);
            e.due("cell 0", 0, g.surely(0));
        });
        e.edge("32", "NONE (several, none is FITTING, too)", () -> {
            LateGlass g = Edges.only(0, 1);
            e.due("several", NONE, g.surely(5));
            g.sighting(0, EAST, 5, 1);
            e.due("one", 1, g.surely(5));
            g.sighting(0, EAST, 5, 0);
            e.due("none is fitting", NONE, g.surely(5));
            g.drop(1);
            for (int bad : new int[] {-1, 24, Edges.MIN, Edges.MAX}) {
                e.due("" + bad, NONE, g.surely(bad));
            }
        });
    }

    private static void spots(Edges e) {
        e.edge("33", "A SPOT: its number. -1;", () -> {
            LateGlass g = new LateGlass();
            e.due(0, g.spot(0, 0, 0));
            e.due(1, g.spot(63, 5, 23));
            for (int[] bad : new int[][] {{-1, 0, 0}, {64, 0, 0}, {5, -1, 0}, {5, 6, 0}, {5, 0, -1}, {5, 0, 24}}) {
                e.due(-1, g.spot(bad[0], bad[1], bad[2]));
            }
            e.due("two still", 2, g.count(4));
        });
        e.edge("33", "-3 a WALL, a GLASS, a SPOT is there", () -> {
            LateGlass g = new LateGlass();
            g.wall(0, 1);
            g.glass(1, 0, 0, 0);
            g.spot(2, 0, 0);
            g.body();
            g.stay(0, 0, 23, 3);
            g.start(4);
            e.due("a wall", -3, g.spot(0, 0, 0));
            e.due("a glass", -3, g.spot(1, 0, 0));
            e.due("a spot", -3, g.spot(2, 0, 0));
            e.due("a body is nothing", 1, g.spot(3, 0, 0));
            e.due("the start is nothing", 2, g.spot(4, 0, 0));
        });
        e.edge("33", "-5.", () -> {
            LateGlass g = new LateGlass();
            for (int i = 0; i < 8; i++) {
                g.spot(i, 0, 0);
            }
            e.due(-5, g.spot(8, 0, 0));
            e.due(-5, g.status());
            e.due(8, g.count(4));
        });
        e.edge("34", "A WISH: by a LOOK that a CELL in an HOUR of it (1), or not (0): how many there are. -1; -5.", () -> {
            LateGlass g = new LateGlass();
            for (int[] bad : new int[][] {{-1, 0, 0, 0, 0, 0}, {64, 0, 0, 0, 0, 0}, {0, -1, 0, 0, 0, 0},
                {0, 4, 0, 0, 0, 0}, {0, 0, -1, 0, 0, 0}, {0, 0, 24, 0, 0, 0}, {0, 0, 0, -1, 0, 0}, {0, 0, 0, 64, 0, 0},
                {0, 0, 0, 0, -1, 0}, {0, 0, 0, 0, 24, 0}, {0, 0, 0, 0, 0, -1}, {0, 0, 0, 0, 0, 2}}) {
                e.due(-1, g.wish(bad[0], bad[1], bad[2], bad[3], bad[4], bad[5]));
            }
            e.due("none came", 0, g.count(5));
            for (int i = 1; i <= 6; i++) {
                e.due(i, g.wish(63, 3, 23, 63, 23, i % 2));
            }
            e.due("a seventh", -5, g.wish(0, 0, 0, 0, 0, 0));
            e.due(6, g.count(5));
        });
        e.edge("35", "WISHES that are not so with SPOTS that are HUNG (bits), as bits. NONE.", () -> {
            LateGlass g = new LateGlass();
            e.due("no spot, no wish", 0, g.lacks(0));
            e.due("no spot", NONE, g.lacks(1));
            e.due("below", NONE, g.lacks(-1));
            g.spot(3, 2, 0);
            g.wish(0, EAST, 5, 4, 5, 1);
            g.wish(0, EAST, 5, 4, 5, 0);
            e.due("not hung", 2, g.lacks(0));
            e.due("hung", 1, g.lacks(1));
            e.due("no second spot", NONE, g.lacks(2));
            e.due("no second spot", NONE, g.lacks(3));
            e.due("far below", NONE, g.lacks(Edges.MIN));
            e.due("far beyond", NONE, g.lacks(Edges.MAX));
        });
        e.edge("36", "FEWEST (what 0), with as many in how many ways (1), which (2).", () -> {
            LateGlass g = new LateGlass();
            g.spot(3, 2, 0);
            g.spot(4, 2, 0);
            g.wish(0, EAST, 5, 5, 5, 0);
            e.due("fewest", 1, g.hang(0));
            e.due("in how many ways", 2, g.hang(1));
            e.due("which", 1, g.hang(2));
            LateGlass none = new LateGlass();
            e.due("no wish: fewest", 0, none.hang(0));
            e.due("no wish: one way", 1, none.hang(1));
            e.due("no wish: none of them", 0, none.hang(2));
        });
        e.edge("36", "NONE (none, for 0, 2; 0 for 1)", () -> {
            LateGlass g = new LateGlass();
            g.spot(3, 2, 0);
            g.wish(0, NORTH, 5, 5, 5, 1);
            e.due("fewest", NONE, g.hang(0));
            e.due("ways", 0, g.hang(1));
            e.due("which", NONE, g.hang(2));
            LateGlass fine = new LateGlass();
            fine.spot(3, 2, 0);
            fine.wish(0, EAST, 5, 5, 5, 0);
            for (int bad : new int[] {-1, 3, Edges.MIN, Edges.MAX}) {
                e.due("" + bad, NONE, fine.hang(bad));
            }
            e.due("in one way", 1, fine.hang(1));
            fine.wish(0, NORTH, 5, 5, 5, 1);
            e.due("in no way then", 0, fine.hang(1));
        });
    }

    private static void walking(Edges e) {
        e.edge("37", "SOONEST for a BODY by a WALKER from a CELL in an HOUR. NONE.", () -> {
            LateGlass g = new LateGlass();
            e.due("no body", NONE, g.soonest(0, 0, 0));
            g.body();
            e.due("never", NONE, g.soonest(0, 0, 0));
            g.stay(0, 0, 0, 7);
            e.due("at once", 0, g.soonest(0, 0, 0));
            e.due("too late", NONE, g.soonest(0, 0, 1));
            g.wall(9, 1);
            for (int[] bad : new int[][] {{-1, 0, 0}, {1, 0, 0}, {0, -1, 0}, {0, 64, 0}, {0, 0, -1}, {0, 0, 24}, {0, 9, 0},
                {Edges.MIN, 0, 0}, {0, Edges.MAX, 0}}) {
                e.due(bad[0] + " " + bad[1] + " " + bad[2], NONE, g.soonest(bad[0], bad[1], bad[2]));
            }
        });
        e.edge("38", "Where he is in an HOUR, from that one to SOONEST, in the FIRST. NONE.", () -> {
            LateGlass g = new LateGlass();
            g.body();
            e.due("never", NONE, g.way(0, 18, 4, 4));
            g.stay(0, 6, 6, 36);
            e.due("soonest", 6, g.soonest(0, 18, 4));
            e.due("ahead", NONE, g.way(0, 18, 4, 3));
            e.due("from that one", 18, g.way(0, 18, 4, 4));
            e.due("between", 19, g.way(0, 18, 4, 5));
            e.due("to soonest", 20, g.way(0, 18, 4, 6));
            e.due("behind", NONE, g.way(0, 18, 4, 7));
            e.due("that one alone", 20, g.way(0, 20, 6, 6));
            g.wall(9, 1);
            for (int[] bad : new int[][] {{-1, 18, 4, 4}, {1, 18, 4, 4}, {0, -1, 4, 4}, {0, 64, 4, 4}, {0, 18, -1, 4},
                {0, 18, 24, 24}, {0, 9, 4, 4}, {0, 18, 4, -1}, {0, 18, 4, 24}, {0, 18, 4, Edges.MIN}, {0, 18, 4, Edges.MAX}}) {
                e.due(NONE, g.way(bad[0], bad[1], bad[2], bad[3]));
            }
        });
        e.edge("39", "SOONER by turning: the HOUR (what 0), the GLASS (1), its SORT (2).", () -> {
            LateGlass g = new LateGlass();
            g.glass(40, 2, 0, 0);
            g.glass(3, 2, 0, 0);
            g.body();
            g.stay(0, 23, 23, 0);
            e.due("the hour", 23, g.sooner(0, 59, 23, 0));
            e.due("the glass", 1, g.sooner(0, 59, 23, 1));
            e.due("its sort", 1, g.sooner(0, 59, 23, 2));
            e.due("it was not turned", 2, g.of(1, 1));
        });
        e.edge("39", "NONE (not sooner, as for soonest)", () -> {
            LateGlass g = new LateGlass();
            g.glass(3, 2, 0, 0);
            g.body();
            e.due("never", NONE, g.sooner(0, 59, 23, 0));
            g.stay(0, 23, 23, 0);
            e.due("sooner", 23, g.sooner(0, 59, 23, 0));
            e.due("not sooner than at once", NONE, g.sooner(0, 56, 23, 0));
            g.wall(9, 1);
            for (int[] bad : new int[][] {{-1, 59, 23, 0}, {1, 59, 23, 0}, {0, -1, 23, 0}, {0, 64, 23, 0}, {0, 59, -1, 0},
                {0, 59, 24, 0}, {0, 9, 23, 0}, {0, 59, 23, -1}, {0, 59, 23, 3}, {0, 59, 23, Edges.MIN}, {0, 59, 23, Edges.MAX}}) {
                e.due(NONE, g.sooner(bad[0], bad[1], bad[2], bad[3]));
            }
        });
        e.edge("39", "NONE (not sooner, as for soonest)", () -> {
            // From a wall a turned glass would show the body.
            LateGlass g = new LateGlass();
            g.glass(3, 2, 0, 0);
            g.body();
            g.stay(0, 23, 23, 0);
            g.wall(59, 1);
            e.due("from a wall", NONE, g.sooner(0, 59, 23, 0));
        });
    }

    private static void wandering(Edges e) {
        e.edge("40", "in how many HOURS somebody SEES the CELL in which he is then, in that HOUR or any later (as for unseen).", () -> {
            LateGlass g = Edges.only(0, 1);
            g.body();
            e.due("nobody sees", 0, g.wander(3, 0));
            LateGlass all = Edges.only(9);
            all.body();
            all.stay(0, 0, 23, 9);
            e.due("one does not see his own cell", 0, all.wander(3, 9));
            LateGlass two = Edges.only(9, 10);
            two.body();
            two.stay(0, 0, 23, 9);
            two.stay(0, 3, 3, NONE);
            two.wander(3, 10);
            int hours = 0;
            for (int hour = 0; hour < 24; hour++) {
                hours += two.drawn(hour) == 10 && hour != 3 ? 1 : 0;
            }
            e.due("in hours when somebody is there", hours, two.wander(3, 10));
            LateGlass late = Edges.only(9, 10);
            late.body();
            late.stay(0, 23, 23, 9);
            late.glass(10, 5, 20, 0);
            for (int seed = 0; seed < 20; seed++) {
                int seen = late.wander(seed, 9);
                // From 9 in hour 23 the points are 10 in hour 23 and 9 in hour 3.
                e.due("seed " + seed, (late.drawn(23) == 10 ? 1 : 0) + (late.drawn(3) == 9 ? 1 : 0), seen);
            }
        });
        e.edge("40", "-1; -3 a WALL.", () -> {
            LateGlass g = new LateGlass();
            g.wall(9, 1);
            for (int[] bad : new int[][] {{-1, 0}, {1000001, 0}, {0, -1}, {0, 64}, {Edges.MIN, 0}, {0, Edges.MAX}}) {
                e.due(-1, g.wander(bad[0], bad[1]));
            }
            e.due("a wall", -3, g.wander(0, 9));
            e.due("none is kept", NONE, g.drawn(0));
            g.wander(0, 27);
            g.wander(0, 9);
            g.wander(-1, 27);
            e.due("the latest is kept", 27, g.drawn(0));
        });
        e.edge("40", "WANDERING, kept as the latest", () -> {
            LateGlass g = new LateGlass();
            g.wander(0, 27);
            g.wander(0, 63);
            e.due(63, g.drawn(0));
            e.due(55, g.drawn(1));
        });
        e.edge("41", "Where he was in an HOUR of the latest WANDERING. NONE.", () -> {
            LateGlass g = new LateGlass();
            e.due("none yet", NONE, g.drawn(0));
            e.due("none yet", NONE, g.drawn(23));
            g.wander(0, 0);
            e.due("hour 0", 0, g.drawn(0));
            e.hold("hour 23", g.drawn(23) >= 0);
            for (int bad : new int[] {-1, 24, Edges.MIN, Edges.MAX}) {
                e.due("" + bad, NONE, g.drawn(bad));
            }
        });
    }

    private static void images(Edges e) {
        e.edge("42", "IMAGE k is kept: 0; -1.", () -> {
            LateGlass g = new LateGlass();
            e.due("0", 0, g.image(0));
            e.due("1", 0, g.image(1));
            for (int bad : new int[] {-1, 2, Edges.MIN, Edges.MAX}) {
                e.due("" + bad, -1, g.image(bad));
            }
            e.due("kept", 0, g.back(0));
            e.due("kept", 0, g.back(1));
        });
        e.edge("43", "BACK to IMAGE k: 0. -1;", () -> {
            LateGlass g = new LateGlass();
            g.image(1);
            g.wall(0, 1);
            for (int bad : new int[] {-1, 2, Edges.MIN, Edges.MAX}) {
                e.due("" + bad, -1, g.back(bad));
            }
            e.due("the wall stands", 1, g.count(6));
            e.due("back", 0, g.back(1));
            e.due("the wall is gone", 0, g.count(6));
        });
        e.edge("43", "-2 it was not kept", () -> {
            LateGlass g = new LateGlass();
            e.due("0", -2, g.back(0));
            e.due("1", -2, g.back(1));
            g.image(1);
            e.due("0 still", -2, g.back(0));
            e.due("1 now", 0, g.back(1));
            e.due("back keeps none", -2, g.back(0));
        });
    }

    private static void counting(Edges e) {
        e.edge("44", "0 GLASSES, 1 BODIES, 2 LAWS, 3 SIGHTINGS, 4 SPOTS, 5 WISHES, 6 WALLS, 7 bytes of the TAPE", () -> {
            LateGlass g = new LateGlass();
            int[] most = {6, 5, 6, 10, 8, 6, 5, 20};
            for (int i = 0; i < 12; i++) {
                g.glass(i, 0, 0, 0);
                g.body();
                Edges.law(g, "late 1");
                g.sighting(0, 0, 0, 0);
                g.spot(20 + i, 0, 0);
                g.wish(0, 0, 0, 0, 0, 0);
            }
            for (int i = 0; i < 5; i++) {
                g.wall(40 + i, 1);
            }
            g.feed(0, 0, 0, 0, 0);
            for (int what = 0; what < 8; what++) {
                e.due("count " + what, most[what], g.count(what));
            }
        });
        e.edge("44", "8 .. 12 how many calls were REFUSED by -1, -2, -3, -5, -6 (IMAGES do not keep that)", () -> {
            LateGlass g = new LateGlass();
            g.image(0);
            g.wall(0, 2);
            g.drop(0);
            g.drop(0);
            g.wall(1, 1);
            g.start(1);
            g.start(1);
            g.start(1);
            for (int i = 0; i < 9; i++) {
                g.body();
            }
            for (int i = 0; i < 5; i++) {
                g.row();
            }
            for (int i = 0; i < 5; i++) {
                e.due("count " + (8 + i), 1 + i, g.count(8 + i));
            }
            g.back(0);
            for (int i = 0; i < 5; i++) {
                e.due("back, count " + (8 + i), 1 + i, g.count(8 + i));
            }
            g.look(-1, -1, -1, -1);
            g.feed(0, 0, 0, 0, 0);
            g.end(-1);
            g.could(-1, -2);
            g.hang(9);
            g.soonest(9, 9, 9);
            e.due("NONE is no refusal", 1, g.count(8));
        });
        e.edge("44", "13 the LAW in FORCE", () -> {
            LateGlass g = new LateGlass();
            e.due("none", NONE, g.count(13));
            Edges.law(g, "late 1");
            Edges.law(g, "late 1");
            g.force(1);
            e.due("1", 1, g.count(13));
            g.force(0);
            e.due("0", 0, g.count(13));
        });
        e.edge("44", "NONE for others", () -> {
            LateGlass g = new LateGlass();
            for (int bad : new int[] {-1, 14, Edges.MIN, Edges.MAX}) {
                e.due("" + bad, NONE, g.count(bad));
            }
        });
        e.edge("45", "was REFUSED by;", () -> {
            for (int kind = 0; kind < 17; kind++) {
                LateGlass g = new LateGlass();
                g.wall(63, 1);
                int answer = refused(g, kind);
                e.hold("call " + kind + " is refused", answer < 0);
                e.due("call " + kind, answer, g.status());
            }
        });
        e.edge("45", "0 if it was not", () -> {
            for (int kind = 0; kind < 17; kind++) {
                LateGlass g = new LateGlass();
                g.wall(0, 2);
                e.due("a refused one ahead of it", -1, g.status());
                taken(g, kind);
                e.due("call " + kind, 0, g.status());
            }
        });
        e.edge("45", "or ahead of any", () -> e.due(0, new LateGlass().status()));
        e.edge("45", "What the latest call of wall, glass, turn, body, stay, least, row, law, force, sighting, drop, start, spot, wish, wander, image, back", () -> {
            LateGlass g = new LateGlass();
            g.wall(0, 2);
            g.of(9, 9);
            g.where(9, 9);
            g.feed(0, 0, 0, 0, 0);
            g.end(0);
            g.faded();
            g.fault();
            g.look(-1, 0, 0, 0);
            g.point(0, 1, 0, 0);
            g.sees(0, 0);
            g.late(0, 0, 0);
            g.first(0, 0);
            g.lit(0, 0, 0);
            g.unseen(0);
            g.fits();
            g.could(0, 0);
            g.path(0);
            g.core();
            g.tells(0, 0, 0);
            g.surely(0);
            g.lacks(0);
            g.hang(0);
            g.soonest(0, 0, 0);
            g.way(0, 0, 0, 0);
            g.sooner(0, 0, 0, 0);
            g.drawn(0);
            g.count(0);
            e.due("no other call is one of these", -1, g.status());
            g.drop(0);
            g.look(0, 1, 0, 0);
            e.due("no other call is one of these", -2, g.status());
        });
    }

    private static int refused(LateGlass g, int kind) {
        switch (kind) {
            case 0: return g.wall(0, 2);
            case 1: return g.glass(63, 0, 0, 0);
            case 2: return g.turn(0, 0, 0);
            case 3: {
                for (int i = 0; i < 5; i++) {
                    g.body();
                }
                return g.body();
            }
            case 4: return g.stay(0, 0, 0, 0);
            case 5: return g.least(-1);
            case 6: return g.row();
            case 7: return g.law();
            case 8: return g.force(0);
            case 9: return g.sighting(0, 0, 0, 2);
            case 10: return g.drop(0);
            case 11: return g.start(63);
            case 12: return g.spot(63, 0, 0);
            case 13: return g.wish(0, 0, 0, 0, 0, 2);
            case 14: return g.wander(0, 63);
            case 15: return g.image(2);
            default: return g.back(0);
        }
    }

    private static void taken(LateGlass g, int kind) {
        switch (kind) {
            case 0: g.wall(0, 0); break;
            case 1: g.glass(0, 0, 0, 0); break;
            case 2: {
                g.glass(0, 0, 0, 0);
                g.wall(0, 2);
                g.turn(0, 0, 0);
                break;
            }
            case 3: g.body(); break;
            case 4: {
                g.body();
                g.wall(0, 2);
                g.stay(0, 0, 0, 0);
                break;
            }
            case 5: g.least(0); break;
            case 6: {
                g.feed(0, 0, 0, 0, 0);
                g.row();
                break;
            }
            case 7: Edges.law(g, "late 1"); break;
            case 8: g.force(NONE); break;
            case 9: g.sighting(0, 0, 0, 0); break;
            case 10: {
                g.sighting(0, 0, 0, 0);
                g.wall(0, 2);
                g.drop(0);
                break;
            }
            case 11: g.start(NONE); break;
            case 12: g.spot(0, 0, 0); break;
            case 13: g.wish(0, 0, 0, 0, 0, 0); break;
            case 14: g.wander(0, 0); break;
            case 15: g.image(0); break;
            default: {
                g.image(0);
                g.wall(0, 2);
                g.back(0);
                break;
            }
        }
    }
}
