/** Terms IV: thief, spots, wishes, walker, wandering, rows, images. */
final class HuntEdges {
    private static final int NONE = Edges.NONE;
    private static final int NORTH = Edges.NORTH;
    private static final int EAST = Edges.EAST;
    private static final int SOUTH = Edges.SOUTH;
    private static final int WEST = Edges.WEST;

    private HuntEdges() {
    }

    static void add(Edges e) {
        thief(e);
        sightings(e);
        core(e);
        spots(e);
        hung(e);
        walker(e);
        sooner(e);
        wandering(e);
        rows(e);
        images(e);
    }

    private static void thief(Edges e) {
        e.edge("IV", "A THIEF (none of the BODIES, looked through by all)", () -> {
            LateGlass g = Edges.only(0, 1, 2);
            long all = g.fits();
            g.body();
            g.stay(0, 5, 5, 1);
            e.due("he can be where a body is", all, g.fits());
            g.start(1);
            e.due("he stops no look", 2, g.look(0, EAST, 0, 1));
            e.due("he is no body that is seen", NONE, g.look(0, EAST, 0, 0));
            g.sighting(0, EAST, 0, 1);
            g.sighting(0, EAST, 2, 1);
            e.due("he stops no look in hour 2, either", 2, g.could(2, NONE));
        });
        e.edge("IV", "is in HOURS 0 .. 23 each in a CELL that is no WALL", () -> {
            LateGlass g = Edges.only(5);
            e.due("one cell", 1, g.fits());
            for (int hour = 0; hour < 24; hour++) {
                e.due("in hour " + hour, 5, g.surely(hour));
            }
            g.wall(5, 1);
            e.due("nowhere", 0, g.fits());
            LateGlass two = Edges.only(5, 6);
            e.due("24 hours", 1L << 24, two.fits());
            e.due("in a wall", 0, two.could(0, 7));
        });
        e.edge("IV", "in the next HOUR in the same or one beside it (x or y one more or less)", () -> {
            LateGlass g = new LateGlass();
            g.start(Edges.cell(3, 3));
            e.due("five cells", 5, g.could(1, NONE));
            int[][] beside = {{3, 3}, {2, 3}, {4, 3}, {3, 2}, {3, 4}};
            for (int[] at : beside) {
                e.hold("one beside it", g.could(1, Edges.cell(at[0], at[1])) > 0);
            }
            e.due("not across", 0, g.could(1, Edges.cell(4, 4)));
            e.due("thirteen cells", 13, g.could(2, NONE));
        });
        e.edge("IV", "one beside it (x or y one more or less)", () -> {
            LateGlass g = new LateGlass();
            g.start(Edges.cell(7, 0));
            e.due("no way round the east edge", 0, g.could(1, Edges.cell(0, 1)));
            e.due("a corner", 3, g.could(1, NONE));
            g.start(Edges.cell(0, 1));
            e.due("no way round the west edge", 0, g.could(1, Edges.cell(7, 0)));
            e.due("an edge", 4, g.could(1, NONE));
            g.start(Edges.cell(3, 7));
            e.due("no way round the south edge", 0, g.could(1, Edges.cell(3, 0)));
            e.due("an edge", 4, g.could(1, NONE));
        });
        e.edge("IV", "in the next HOUR in the same or one beside it (x or y one more or less)", () -> {
            int[][] pairs = {{8, 0}, {0, 1}, {0, 8}, {1, 0}};
            for (int[] pair : pairs) {
                LateGlass g = Edges.only(pair);
                g.start(pair[0]);
                g.sighting(pair[1] == 1 || pair[1] == 8 ? 0 : pair[0], wayTo(pair), 1, 1);
                String what = "from " + pair[0] + " to " + pair[1];
                e.due(what, pair[1], g.path(1));
                e.due(what, pair[1], g.surely(1));
                e.due(what, 1, g.could(1, NONE));
                e.due(what, 1L << 22, g.fits());
                e.due(what, 0, g.core());
            }
        });
        e.edge("IV", "START: one told CELL in HOUR 0 (NONE: any, at first)", () -> {
            LateGlass g = Edges.only(0, 1);
            e.due("any, at first", 2, g.could(0, NONE));
            g.start(1);
            e.due("told", 1, g.surely(0));
            e.due("in hour 0 alone", 2, g.could(1, NONE));
            g.start(NONE);
            e.due("any again", 2, g.could(0, NONE));
            e.due("any again", 1L << 24, g.fits());
            LateGlass barred = new LateGlass();
            barred.start(5);
            barred.sighting(4, EAST, 0, 0);
            e.due("not where he was not", 0, barred.fits());
            e.due("not where he was not", NONE, barred.path(0));
            e.due("not where he was not", NONE, barred.path(1));
            e.due("not where he was not", 0, barred.could(1, NONE));
            e.due("not where he was not", 1, barred.core());
        });
        e.edge("IV", "The FIRST as a row.", () -> {
            LateGlass g = Edges.only(0, 1, 8, 9);
            e.due("the lowest at first", 0, g.path(0));
            g.sighting(1, SOUTH, 2, 1);
            // To be in 9 in hour 2 he goes 0, 1, 9, not 0, 8, 9, and starts in 0, not nearer.
            e.due("the lowest at first", 0, g.path(0));
            e.due("then the lowest", 1, g.path(1));
            e.due("then where he must be", 9, g.path(2));
            e.due("then the lowest", 1, g.path(3));
            e.due("then the lowest", 0, g.path(4));
            e.due("in the end", 0, g.path(23));
            e.due("the lowest is not 0", 62, Edges.only(63, 62).path(0));
            LateGlass corner = new LateGlass();
            corner.start(63);
            e.due("the start", 63, corner.path(0));
            e.due("north", 55, corner.path(1));
            e.due("north", 7, corner.path(7));
            e.due("then west", 6, corner.path(8));
            e.due("then west", 0, corner.path(14));
        });
    }

    private static int wayTo(int[] pair) {
        return pair[1] - pair[0] == -8 ? NORTH : pair[1] - pair[0] == 8 ? SOUTH : pair[1] > pair[0] ? EAST : WEST;
    }

    private static void sightings(Edges e) {
        e.edge("IV", "SIGHTINGS, 10 at most", () -> {
            LateGlass g = new LateGlass();
            for (int i = 1; i <= 10; i++) {
                e.due(i, g.sighting(0, EAST, 0, 0));
            }
            e.due("an eleventh", -5, g.sighting(0, EAST, 0, 0));
            e.due("an eleventh", -5, g.sighting(0, EAST, 0, 1));
            e.due("how many", 10, g.count(3));
        });
        e.edge("IV", "by a LOOK he was SEEN (he was at one at least of its POINTS)", () -> {
            LateGlass g = Edges.only(0, 1);
            g.glass(1, 5, 2, 0);
            long all = 1L << 24;
            // From 0 eastwards in hour 9: 1 in hour 9, 0 in hour 7.
            g.sighting(0, EAST, 9, 1);
            e.due("at one or at both", all * 3 / 4, g.fits());
            e.due("at both", all / 4, g.could(9, 1) + g.could(7, 0) - g.fits());
            e.due("at the last point alone", all / 4, g.could(9, 0));
            LateGlass none = new LateGlass();
            none.sighting(0, NORTH, 5, 1);
            e.due("a look without points saw nobody", 0, none.fits());
        });
        e.edge("IV", "by a LOOK he was SEEN (he was at one at least of its POINTS)", () -> {
            // Cells where he can be are those where some fitting row has him, for looks of several points.
            for (int hour = 0; hour < 24; hour += 2) {
                LateGlass g = severalPoints();
                int cells = 0;
                int only = NONE;
                for (int cell = 0; cell < 8; cell++) {
                    boolean is = g.could(hour, cell) > 0;
                    cells += is ? 1 : 0;
                    only = is ? cell : only;
                }
                e.due("in hour " + hour, cells, g.could(hour, NONE));
                e.due("in hour " + hour, cells == 1 ? only : NONE, g.surely(hour));
                e.hold("the first row is one of them", g.could(hour, g.path(hour)) > 0);
            }
            LateGlass g = severalPoints();
            e.hold("some row", g.fits() > 0);
            e.due("some row", 0, g.core());
        });
        e.edge("IV", "by a LOOK he was SEEN (he was at one at least of its POINTS)", () -> {
            // Between two late glasses a look comes to the whole row in hours 18, 16 and so on.
            LateGlass g = Edges.only(0, 1, 2, 3, 4, 5, 6, 7);
            g.glass(7, 5, 2, 0);
            g.glass(0, 3, 2, 0);
            g.sighting(3, EAST, 20, 1);
            g.sighting(6, EAST, 0, 1);
            e.due("at points in many hours, and in 7 in hour 0", 1, g.could(0, NONE));
            e.due("at points in many hours, and in 7 in hour 0", 7, g.surely(0));
            for (int hour = 0; hour < 24; hour++) {
                e.due("the first in hour " + hour, Math.max(0, 7 - hour), g.path(hour));
            }
        });
        e.edge("IV", "at most 5 of these", () -> {
            LateGlass g = new LateGlass();
            for (int i = 1; i <= 5; i++) {
                e.due(i, g.sighting(0, EAST, i, 1));
            }
            e.due("a sixth", -5, g.sighting(0, EAST, 6, 1));
            e.due("one of the others", 6, g.sighting(0, EAST, 6, 0));
            e.due("one less", 5, g.drop(2));
            e.due("another one", 6, g.sighting(0, EAST, 7, 1));
            e.due("a sixth again", -5, g.sighting(0, EAST, 8, 1));
        });
        e.edge("IV", "or was not (at none)", () -> {
            LateGlass g = Edges.only(0, 1);
            g.glass(1, 5, 2, 0);
            g.sighting(0, EAST, 9, 0);
            e.due("at neither", (1L << 24) / 4, g.fits());
            e.due("in hour 9", 0, g.surely(9));
            e.due("in hour 7", 1, g.surely(7));
            LateGlass none = Edges.only(0, 1);
            none.sighting(0, NORTH, 5, 0);
            e.due("a look without points", 1L << 24, none.fits());
        });
        e.edge("IV", "FITTING are all his rows of CELLS by which all SIGHTINGS are so", () -> {
            LateGlass g = Edges.only(0, 1);
            e.due("no sighting", 1L << 24, g.fits());
            for (int i = 0; i < 5; i++) {
                g.sighting(0, EAST, 2 * i, 1);
                g.sighting(0, EAST, 2 * i + 1, 0);
            }
            e.due("ten of them", 1L << 14, g.fits());
            for (int hour = 0; hour < 10; hour++) {
                e.due("in hour " + hour, hour % 2 == 0 ? 1 : 0, g.surely(hour));
            }
            e.due("behind them", NONE, g.surely(10));
            g.drop(9);
            g.sighting(0, EAST, 8, 0);
            e.due("seen and not seen", 0, g.fits());
        });
    }

    /** Row 0 alone, a late glass at its end: each look has points in two hours; five have seen him. */
    private static LateGlass severalPoints() {
        LateGlass g = Edges.only(0, 1, 2, 3, 4, 5, 6, 7);
        g.glass(7, 5, 6, 0);
        g.sighting(3, EAST, 8, 1);
        g.sighting(5, EAST, 7, 1);
        g.sighting(4, WEST, 12, 0);
        g.sighting(4, WEST, 10, 1);
        g.sighting(6, WEST, 16, 0);
        g.sighting(6, EAST, 21, 1);
        g.sighting(5, EAST, 22, 1);
        return g;
    }

    private static void core(Edges e) {
        e.edge("IV", "If none is FITTING, the CORE of SIGHTINGS: all at first", () -> {
            LateGlass g = Edges.only(0, 1);
            g.sighting(0, EAST, 5, 1);
            e.due("some row is fitting", 0, g.core());
            g.sighting(0, EAST, 5, 0);
            e.due("both", 3, g.core());
        });
        e.edge("IV", "from the first on each is left out, if none is FITTING without it either", () -> {
            LateGlass g = Edges.only(0, 1);
            g.sighting(0, EAST, 5, 1);
            g.sighting(0, EAST, 5, 1);
            g.sighting(0, EAST, 5, 0);
            g.sighting(0, EAST, 5, 0);
            e.due("the later ones stay", 2 + 8, g.core());
            g.sighting(0, EAST, 4, 1);
            e.due("one that does not matter goes", 2 + 8, g.core());
            g.sighting(0, NORTH, 4, 1);
            e.due("one alone", 32, g.core());
        });
        e.edge("IV", "(START stays)", () -> {
            LateGlass g = Edges.only(0, 1);
            g.start(0);
            g.sighting(0, EAST, 0, 1);
            e.due("by the start", 1, g.core());
            g.sighting(0, EAST, 5, 0);
            e.due("by the start", 1, g.core());
            e.due("it stays", 0, g.start(1));
            e.due("another start", 0, g.core());
        });
    }

    private static void spots(Edges e) {
        e.edge("IV", "SPOTS, 8 at most: a CELL, a SORT, LATE", () -> {
            LateGlass g = new LateGlass();
            for (int i = 0; i < 8; i++) {
                e.due(i, g.spot(i, i % 6, 3 * i));
            }
            e.due("a ninth", -5, g.spot(8, 0, 0));
            e.due("how many", 8, g.count(4));
            e.due("all hung", 0, g.lacks(255));
            e.due("none such", NONE, g.lacks(256));
        });
        e.edge("IV", "where GLASSES (DUST 0) can be hung", () -> {
            LateGlass g = new LateGlass();
            g.spot(3, 5, 0);
            g.least(1000000);
            g.wish(0, EAST, 5, 0, 5, 1);
            e.due("no bright is lost", 0, g.lacks(1));
            Edges.force(g, "dust 1");
            e.due("but by a law", 1, g.lacks(1));
        });
        e.edge("IV", "where GLASSES (DUST 0) can be hung", () -> {
            LateGlass g = new LateGlass();
            g.body();
            g.body();
            g.stay(0, 0, 23, 0);
            g.stay(1, 0, 23, 5);
            g.spot(3, 2, 0);
            e.due("not hung: look", 1, g.look(0, EAST, 5, 0));
            e.due("not hung: point", 64 * 5 + 4, g.point(0, EAST, 5, 3));
            e.due("not hung: sees", 2, g.sees(0, 5));
            e.due("not hung: late", 0, g.late(0, 1, 5));
            e.due("not hung: first", 0, g.first(1, 0));
            e.due("not hung: lit", 1, g.lit(0, 5, 4));
            e.due("not hung: soonest", 0, g.soonest(1, 0, 0));
            long seen = 0;
            for (int cell = 1; cell <= 5; cell++) {
                seen += g.could(5, cell);
            }
            e.due("not hung: tells", seen, g.tells(0, EAST, 5));
            g.sighting(0, EAST, 5, 1);
            e.due("not hung: fits", seen, g.fits());
            g.stay(1, 0, 23, NONE);
            e.due("not hung: unseen", 0, g.unseen(4));
        });
        e.edge("IV", "none where one is, or another SPOT", () -> {
            LateGlass g = new LateGlass();
            g.glass(3, 0, 0, 0);
            e.due("a glass", -3, g.spot(3, 0, 0));
            e.due("there is room", 0, g.spot(4, 0, 0));
            e.due("a spot", -3, g.spot(4, 1, 1));
            e.due("a glass at a spot", -3, g.glass(4, 0, 0, 0));
        });
        e.edge("IV", "WISHES, 6 at most: of a LOOK that a CELL and an HOUR are among its POINTS, or are not", () -> {
            LateGlass g = new LateGlass();
            g.glass(3, 5, 2, 0);
            e.due(1, g.wish(0, EAST, 9, 3, 9, 1));
            e.due(2, g.wish(0, EAST, 9, 2, 7, 1));
            e.due(3, g.wish(0, EAST, 9, 3, 7, 0));
            e.due("all are so", 0, g.lacks(0));
            e.due(4, g.wish(0, EAST, 9, 3, 9, 0));
            e.due(5, g.wish(0, EAST, 9, 3, 7, 1));
            e.due(6, g.wish(0, EAST, 9, 4, 9, 1));
            e.due("a seventh", -5, g.wish(0, EAST, 9, 3, 9, 1));
            e.due("the later ones are not so", 8 + 16 + 32, g.lacks(0));
            LateGlass ends = new LateGlass();
            ends.wish(0, EAST, 9, 1, 9, 1);
            ends.wish(0, EAST, 9, 7, 9, 1);
            ends.wish(0, EAST, 9, 0, 9, 0);
            e.due("the first point, the last, not its own cell", 0, ends.lacks(0));
            LateGlass none = new LateGlass();
            none.wish(0, NORTH, 9, 0, 9, 1);
            none.wish(0, NORTH, 9, 0, 9, 0);
            e.due("of a look without points", 1, none.lacks(0));
        });
    }

    private static void hung(Edges e) {
        e.edge("IV", "HUNG are some SPOTS (bits) besides the GLASSES there", () -> {
            LateGlass g = new LateGlass();
            g.glass(Edges.cell(7, 0), 1, 1, 0);
            g.spot(Edges.cell(7, 7), 0, 2);
            g.spot(Edges.cell(7, 3), 0, 4);
            g.wish(0, EAST, 9, Edges.cell(0, 7), 6, 1);
            g.wish(0, EAST, 9, Edges.cell(0, 3), 4, 1);
            e.due("none", 3, g.lacks(0));
            e.due("the first", 2, g.lacks(1));
            e.due("the second", 1, g.lacks(2));
            e.due("both", 1, g.lacks(3));
            e.due("they hang for the wishes alone", 14, g.look(0, EAST, 9, 1));
        });
        e.edge("IV", "it is asked of them as of GLASSES 6 and on by their numbers", () -> {
            LateGlass g = new LateGlass();
            for (int i = 0; i < 8; i++) {
                g.spot(Edges.cell(5, i), 5, 0);
            }
            Edges.force(g, "late glass");
            for (int i = 0; i < 6; i++) {
                g.wish(Edges.cell(1, i), EAST, 20, Edges.cell(1, i), 20 - 6 - i, 1);
            }
            e.due("spots 0 to 5", 0, g.lacks(255));
            LateGlass last = new LateGlass();
            for (int i = 0; i < 8; i++) {
                last.spot(Edges.cell(5, i), 5, 0);
            }
            Edges.force(last, "late glass");
            last.wish(Edges.cell(1, 7), EAST, 20, Edges.cell(1, 7), 7, 1);
            last.wish(Edges.cell(1, 6), EAST, 20, Edges.cell(1, 6), 8, 1);
            e.due("spots 6 and 7", 0, last.lacks(255));
            e.due("7 alone", 2, last.lacks(128));
        });
        e.edge("IV", "FEWEST by which all WISHES are so", () -> {
            LateGlass none = new LateGlass();
            none.spot(3, 0, 0);
            e.due("without wishes none", 0, none.hang(0));
            e.due("without wishes none", 0, none.hang(2));
            none.wish(0, EAST, 5, 7, 5, 1);
            e.due("a wish that is so without", 0, none.hang(0));
            LateGlass all = new LateGlass();
            for (int i = 0; i < 8; i++) {
                all.spot(Edges.cell(3, i), 2, 0);
            }
            for (int i = 0; i < 6; i++) {
                all.wish(Edges.cell(0, i + 2), EAST, 5, Edges.cell(4, i + 2), 5, 0);
            }
            e.due("six", 6, all.hang(0));
            e.due("six", 255 - 3, all.hang(2));
        });
        e.edge("IV", "the lowest as bits", () -> {
            LateGlass g = new LateGlass();
            // To (0, 3) over 0 and 3, or over 1 and 2: as bits 9 and 6.
            g.spot(Edges.cell(2, 7), 0, 0);
            g.spot(Edges.cell(4, 7), 0, 0);
            g.spot(Edges.cell(4, 3), 1, 0);
            g.spot(Edges.cell(2, 3), 1, 0);
            g.wish(Edges.cell(0, 7), EAST, 5, Edges.cell(0, 3), 5, 1);
            e.due("over 0 and 3", 0, g.lacks(9));
            e.due("over 1 and 2", 0, g.lacks(6));
            e.due("two", 2, g.hang(0));
            e.due("in two ways", 2, g.hang(1));
            e.due("the lowest", 6, g.hang(2));
            LateGlass few = new LateGlass();
            // Over 2 alone, or over 0 and 1: the fewest, not the lowest of all.
            few.spot(Edges.cell(2, 7), 0, 0);
            few.spot(Edges.cell(2, 3), 0, 0);
            few.spot(Edges.cell(4, 7), 0, 0);
            few.wish(Edges.cell(0, 7), EAST, 5, Edges.cell(4, 3), 5, 1);
            e.due("over 0 and 1", 0, few.lacks(3));
            e.due("over 2", 0, few.lacks(4));
            e.due("the fewest", 4, few.hang(2));
            e.due("in one way", 1, few.hang(1));
        });
    }

    private static void walker(Edges e) {
        e.edge("IV", "A WALKER is in a CELL (no WALL) in an HOUR, goes as a THIEF, and is looked through", () -> {
            LateGlass g = new LateGlass();
            g.body();
            g.stay(0, 0, 23, Edges.cell(0, 7));
            g.wall(Edges.cell(3, 3), 1);
            e.due("from a wall", NONE, g.soonest(0, Edges.cell(3, 3), 0));
            e.due("he goes a cell an hour", 2, g.soonest(0, Edges.cell(2, 0), 0));
            LateGlass ring = new LateGlass();
            ring.body();
            ring.stay(0, 0, 23, Edges.cell(0, 0));
            ring.glass(Edges.cell(0, 4), 2, 3, 0);
            e.due("he is in the body's cell, and looks through himself", 3, ring.soonest(0, 0, 3));
            int middle = Edges.cell(3, 3);
            int[] there = {Edges.cell(2, 0), Edges.cell(4, 0), Edges.cell(0, 2), Edges.cell(0, 4)};
            int[] further = {Edges.cell(1, 0), Edges.cell(5, 0), Edges.cell(0, 1), Edges.cell(0, 5)};
            int[] by = {Edges.cell(2, 3), Edges.cell(4, 3), Edges.cell(3, 2), Edges.cell(3, 4)};
            for (int i = 0; i < 4; i++) {
                LateGlass near = new LateGlass();
                near.body();
                near.stay(0, 1, 1, there[i]);
                e.due("one cell beside him", 1, near.soonest(0, middle, 0));
                e.due("one cell beside him", by[i], near.way(0, middle, 0, 1));
                near.stay(0, 1, 1, further[i]);
                e.due("not two cells off", NONE, near.soonest(0, middle, 0));
            }
            LateGlass two = Edges.only(9, 10);
            two.body();
            two.stay(0, 5, 5, 10);
            e.due("he can stay", 5, two.soonest(0, 9, 0));
            e.due("he stays", 9, two.way(0, 9, 0, 4));
            LateGlass edge = new LateGlass();
            edge.body();
            edge.stay(0, 0, 1, Edges.cell(0, 7));
            e.due("no way round the edge", NONE, edge.soonest(0, Edges.cell(7, 0), 0));
        });
        e.edge("IV", "SOONEST: the first HOUR in which a told BODY is SEEN from where he can be (that one on)", () -> {
            LateGlass g = new LateGlass();
            g.body();
            g.body();
            g.stay(0, 5, 6, Edges.cell(4, 4));
            g.stay(1, 0, 23, Edges.cell(4, 1));
            int from = Edges.cell(4, 7);
            e.due("the first", 5, g.soonest(0, from, 0));
            e.due("that one", 5, g.soonest(0, from, 5));
            e.due("that one on", 6, g.soonest(0, from, 6));
            e.due("not ahead of it", NONE, g.soonest(0, from, 7));
            e.due("another body", 0, g.soonest(1, from, 0));
            e.due("in the last hour", 23, g.soonest(1, from, 23));
            g.glass(Edges.cell(0, 4), 3, 17, 0);
            e.due("late, in the last hour", 23, g.soonest(0, Edges.cell(6, 4), 23));
            e.due("late, by one who waits", 22, g.soonest(0, Edges.cell(6, 4), 7));
            LateGlass gone = new LateGlass();
            gone.body();
            gone.glass(Edges.cell(0, 4), 3, 6, 0);
            gone.stay(0, 0, 0, Edges.cell(4, 4));
            e.due("who was there in hour 0 alone", 6, gone.soonest(0, Edges.cell(6, 4), 5));
            e.due("who was there in hour 0 alone", NONE, gone.soonest(0, Edges.cell(6, 4), 7));
            gone.stay(0, 1, 4, Edges.cell(4, 4));
            e.due("who was there until then", 6, gone.soonest(0, Edges.cell(6, 4), 5));
            e.due("who was there until then", 10, gone.soonest(0, Edges.cell(6, 4), 10));
            e.due("who was there until then", NONE, gone.soonest(0, Edges.cell(6, 4), 11));
        });
        e.edge("IV", "the FIRST of these rows", () -> {
            LateGlass g = new LateGlass();
            g.body();
            g.stay(0, 2, 2, Edges.cell(4, 4));
            // In two hours from (2, 2) to column 4 or row 4: by (2, 1) it is too far, by (3, 2) not.
            int from = Edges.cell(2, 2);
            e.due("where he is", from, g.way(0, from, 0, 0));
            e.due("the lowest that gets there", Edges.cell(3, 2), g.way(0, from, 0, 1));
            e.due("in the end", Edges.cell(4, 2), g.way(0, from, 0, 2));
            g.stay(0, 2, 2, Edges.cell(2, 7));
            // From column 2 he is seen at once: north first, as far as it goes.
            e.due("north", Edges.cell(2, 1), g.way(0, from, 0, 1));
            e.due("north again", Edges.cell(2, 0), g.way(0, from, 0, 2));
            g.wall(Edges.cell(2, 1), 1);
            e.due("west ahead of staying", Edges.cell(1, 2), g.way(0, from, 0, 1));
            e.due("and back", Edges.cell(2, 2), g.way(0, from, 0, 2));
        });
    }

    /** Glass 0 in (3, 0), glass 1 in (0, 3), both with their backs to the walker in (3, 3). */
    private static LateGlass turnable() {
        LateGlass g = new LateGlass();
        g.glass(Edges.cell(3, 0), 2, 0, 0);
        g.glass(Edges.cell(0, 3), 2, 0, 0);
        g.body();
        return g;
    }

    private static void sooner(Edges e) {
        int from = Edges.cell(3, 3);
        e.edge("IV", "SOONER by turning: of all GLASSES each of another SORT alone, from the beginning on", () -> {
            LateGlass g = turnable();
            g.stay(0, 23, 23, Edges.cell(7, 0));
            e.due("the hour", 23, g.sooner(0, from, 23, 0));
            e.due("glass", 0, g.sooner(0, from, 23, 1));
            e.due("sort", 0, g.sooner(0, from, 23, 2));
            e.due("it is as it was", 2, g.of(0, 1));
            e.due("it is as it was", NONE, g.soonest(0, from, 23));
            // Over both glasses, if both were turned: by one alone he is not seen.
            LateGlass two = new LateGlass();
            two.glass(Edges.cell(3, 0), 2, 0, 0);
            two.glass(Edges.cell(7, 0), 2, 0, 0);
            two.body();
            two.stay(0, 23, 23, Edges.cell(7, 5));
            e.due("not by two", NONE, two.sooner(0, from, 23, 0));
            two.turn(1, 0, 1);
            e.due("by one", 23, two.sooner(0, from, 23, 0));
            two.turn(0, 0, 0);
            e.due("another sort than it has", NONE, two.sooner(0, from, 23, 0));
            // From cell 0, and by one who walks: in hour 20 from (1, 0) he comes under the glass in hour 22.
            LateGlass far = new LateGlass();
            far.glass(Edges.cell(0, 4), 2, 0, 0);
            far.glass(Edges.cell(3, 6), 2, 0, 0);
            far.body();
            far.stay(0, 20, 20, Edges.cell(5, 4));
            e.due("from cell 0", 20, far.sooner(0, 0, 20, 0));
            e.due("from cell 0", 1, far.sooner(0, 0, 20, 2));
            far.stay(0, 20, 23, Edges.cell(7, 6));
            far.wall(Edges.cell(7, 0), 1);
            far.wall(Edges.cell(4, 6), 1);
            far.stay(0, 20, 23, Edges.cell(0, 6));
            e.due("without, along the column", NONE, far.soonest(0, Edges.cell(1, 0), 20));
            e.due("he walks", 22, far.sooner(0, Edges.cell(1, 0), 20, 0));
            e.due("he walks", 1, far.sooner(0, Edges.cell(1, 0), 20, 1));
            e.due("he walks", 0, far.sooner(0, Edges.cell(1, 0), 20, 2));
        });
        e.edge("IV", "that by which SOONEST is least, if that is less than without, or there is none without", () -> {
            LateGlass g = turnable();
            g.stay(0, 23, 23, Edges.cell(7, 0));
            e.due("none without", NONE, g.soonest(0, from, 22));
            e.due("in hour 23 by the first", 23, g.sooner(0, from, 22, 0));
            e.due("in hour 23 by the first", 0, g.sooner(0, from, 22, 1));
            g.stay(0, 22, 22, Edges.cell(0, 6));
            e.due("in hour 22 by the second", 22, g.sooner(0, from, 22, 0));
            e.due("in hour 22 by the second", 1, g.sooner(0, from, 22, 1));
            e.due("in hour 22 by the second", 0, g.sooner(0, from, 22, 2));
            LateGlass alike = turnable();
            alike.stay(0, 0, 23, Edges.cell(0, 2));
            int without = alike.soonest(0, from, 0);
            e.due("without: from (3, 2)", 1, without);
            e.due("less than without", 0, alike.sooner(0, from, 0, 0));
            alike.stay(0, 0, 0, NONE);
            e.due("as soon without", NONE, alike.sooner(0, from, 0, 0));
            e.due("at once without", NONE, alike.sooner(0, Edges.cell(3, 2), 1, 0));
            LateGlass none = new LateGlass();
            none.body();
            none.stay(0, 0, 23, Edges.cell(0, 2));
            e.due("no glass", NONE, none.sooner(0, from, 0, 0));
        });
        e.edge("IV", "of alike ones the lowest GLASS, then SORT", () -> {
            // The body is in the walker's own cell (4, 7); each of three glasses can show it.
            int own = Edges.cell(4, 7);
            int[][] glasses = {{Edges.cell(4, 4), 2}, {Edges.cell(7, 4), 1}, {Edges.cell(7, 7), 0}};
            int[] sorts = {0, 4, 5};
            for (int first = 0; first < 3; first++) {
                LateGlass g = new LateGlass();
                g.body();
                g.stay(0, 23, 23, own);
                for (int i = 0; i < 3; i++) {
                    int[] glass = glasses[(first + i) % 3];
                    g.glass(glass[0], glass[1], 0, 0);
                }
                e.due("none without", NONE, g.soonest(0, own, 23));
                e.due("the lowest glass", 0, g.sooner(0, own, 23, 1));
                e.due("its lowest sort", sorts[first], g.sooner(0, own, 23, 2));
            }
            LateGlass other = new LateGlass();
            other.body();
            other.stay(0, 23, 23, own);
            other.glass(Edges.cell(4, 4), 0, 0, 0);
            e.due("its other sort", 4, other.sooner(0, own, 23, 2));
        });
    }

    private static void wandering(Edges e) {
        e.edge("IV", "WANDERING with a SEED from a CELL: s is the SEED (0 .. 1,000,000)", () -> {
            LateGlass g = new LateGlass();
            e.due("too small", -1, g.wander(-1, 0));
            e.due("too large", -1, g.wander(1000001, 0));
            e.due("the least", 0, g.wander(0, 27));
            e.due("0 draws north", 19, g.drawn(1));
            e.due("the greatest", 0, g.wander(1000000, 27));
            e.due("1,000,000 draws east", 28, g.drawn(1));
        });
        e.edge("IV", "a DRAW of n: s becomes (s times 1103 and 12345) modulo 1,000,003, it is s modulo n", () -> {
            LateGlass g = new LateGlass();
            long s = 999999;
            int x = 3;
            int y = 3;
            g.wander(999999, 27);
            for (int hour = 1; hour < 24; hour++) {
                s = (s * 1103 + 12345) % 1000003;
                int draw = (int) (s % 5);
                x = Math.max(0, Math.min(7, x + (draw == 1 ? 1 : draw == 3 ? -1 : 0)));
                y = Math.max(0, Math.min(7, y + (draw == 2 ? 1 : draw == 0 ? -1 : 0)));
                e.due("in hour " + hour, Edges.cell(x, y), g.drawn(hour));
            }
        });
        e.edge("IV", "In HOUR 0 one is there; in each later one a DRAW of 5: 0 .. 3 one goes that WAY", () -> {
            LateGlass g = new LateGlass();
            // Seeds 0 to 4 draw 0, 3, 1, 4, 2 at first.
            int[] then = {19, 26, 28, 27, 35};
            for (int seed = 0; seed < 5; seed++) {
                g.wander(seed, 27);
                e.due("seed " + seed + " in hour 0", 27, g.drawn(0));
                e.due("seed " + seed + " in hour 1", then[seed], g.drawn(1));
            }
            g.wander(0, 27);
            e.due("a second draw: 628,841, east", 20, g.drawn(2));
        });
        e.edge("IV", "if it can be, else, and for 4, one stays", () -> {
            LateGlass g = new LateGlass();
            int[][] at = {{0, 3, 19}, {1, 8, 26}, {2, 7, 28}, {4, 60, 35}};
            for (int[] one : at) {
                g.wander(one[0], one[1]);
                e.due("at the edge, seed " + one[0], one[1], g.drawn(1));
                g.wall(one[2], 1);
                g.wander(one[0], 27);
                e.due("against a wall, seed " + one[0], 27, g.drawn(1));
                g.wall(one[2], 0);
                g.wander(one[0], 27);
                e.due("without the wall, seed " + one[0], one[2], g.drawn(1));
            }
            g.wander(3, 27);
            e.due("a draw of 4", 27, g.drawn(1));
            g.glass(19, 0, 0, 0);
            g.body();
            g.stay(0, 0, 23, 19);
            g.wander(0, 27);
            e.due("glasses and bodies are no walls", 19, g.drawn(1));
        });
    }

    private static void rows(Edges e) {
        e.edge("IV", "A ROW of STAYS: the TAPE's bytes by fours: BODY, HOUR, HOUR (not ahead of it), CELL (255: out)", () -> {
            LateGlass g = new LateGlass();
            g.body();
            g.body();
            Edges.feed(g, 0, 0, 23, 63, 1, 23, 23, 0, 0, 5, 6, 255);
            e.due("three", 3, g.row());
            e.due("none faded", 0, g.faded());
            e.due("from hour 0", 63, g.where(0, 0));
            e.due("to hour 23", 63, g.where(0, 23));
            e.due("one hour", 0, g.where(1, 23));
            e.due("not the hour ahead", NONE, g.where(1, 22));
            e.due("out", NONE, g.where(0, 5));
            e.due("out", NONE, g.where(0, 6));
            e.due("not longer", 63, g.where(0, 4));
            e.due("not longer", 63, g.where(0, 7));
            Edges.feed(g, 0, 6, 5, 1);
            e.due("an hour ahead of it", 0, g.row());
        });
        e.edge("IV", "one that can't be (a WALL, too)", () -> {
            int[][] bad = {{1, 0, 0, 0}, {5, 0, 0, 0}, {255, 0, 0, 0}, {0, 24, 24, 0}, {0, 0, 24, 0}, {0, 255, 255, 0},
                {0, 0, 255, 0}, {0, 1, 0, 0}, {0, 0, 0, 64}, {0, 0, 0, 128}, {0, 0, 0, 254}, {0, 0, 0, 9}};
            for (int[] stay : bad) {
                LateGlass g = new LateGlass();
                g.body();
                g.wall(9, 1);
                Edges.feed(g, stay);
                String what = stay[0] + " " + stay[1] + " " + stay[2] + " " + stay[3];
                e.due(what, 0, g.row());
                e.due(what + " is faded", 1, g.faded());
                e.due(what + " is none", NONE, g.where(0, 0));
                e.due(what + " is no refusal", 0, g.status());
            }
        });
        e.edge("IV", "one within which the TAPE ends is FADED: none", () -> {
            for (int more = 0; more < 4; more++) {
                LateGlass g = new LateGlass();
                g.body();
                int[] bytes = {0, 1, 1, 7, 0, 2, 2, 8};
                Edges.feed(g, bytes);
                g.end(4 + more);
                e.due("came", 1, g.row());
                e.due("faded", more == 0 ? 0 : 1, g.faded());
                e.due("the first", 7, g.where(0, 1));
                e.due("none", NONE, g.where(0, 2));
            }
        });
    }

    private static void images(Edges e) {
        e.edge("IV", "IMAGES 0, 1 keep all", () -> {
            LateGlass g = new LateGlass();
            g.image(0);
            g.wall(1, 1);
            g.glass(2, 3, 4, 5);
            g.body();
            g.stay(0, 3, 4, 9);
            g.least(77);
            Edges.force(g, "late 7");
            g.sighting(3, EAST, 4, 1);
            g.start(10);
            g.spot(11, 0, 0);
            g.wish(0, EAST, 1, 4, 1, 1);
            g.image(1);
            g.back(0);
            for (int what = 0; what <= 6; what++) {
                e.due("count " + what + " at first", 0, g.count(what));
            }
            e.due("force at first", NONE, g.count(13));
            e.due("start at first", NONE, g.start(NONE));
            e.due("least at first", 1000, g.least(1000));
            e.due("nowhere", NONE, g.where(0, 3));
            g.back(1);
            for (int what = 0; what <= 6; what++) {
                e.due("count " + what + " then", 1, g.count(what));
            }
            e.due("force then", 0, g.count(13));
            e.due("start then", 10, g.start(10));
            e.due("least then", 77, g.least(77));
            e.due("where then", 9, g.where(0, 4));
            e.due("glass then", 5, g.of(0, 3));
            e.due("the wall is one", 1, g.wall(1, 1));
            e.due("the spot is there", -3, g.wall(11, 1));
            e.due("the wish is there", 1, g.lacks(0));
            e.due("the law is one", 0, g.force(0));
        });
        e.edge("IV", "IMAGES 0, 1 keep all", () -> {
            LateGlass g = new LateGlass();
            g.glass(3, 5, 0, 0);
            g.body();
            g.stay(0, 5, 5, 9);
            g.sighting(0, EAST, 5, 1);
            g.spot(20, 2, 0);
            g.wish(0, EAST, 5, 3, 5, 1);
            g.image(0);
            g.turn(0, 1, 7);
            g.stay(0, 5, 5, 10);
            g.drop(0);
            g.sighting(0, EAST, 5, 0);
            long other = g.fits();
            g.back(0);
            e.due("a glass's late", 0, g.of(0, 2));
            e.due("where a body is", 9, g.where(0, 5));
            e.hold("what a sighting says", g.fits() != other);
            e.due("where looks find a body", 0, g.look(8, EAST, 5, 0));
            e.due("where looks find a body", 1, g.look(8, EAST, 5, 1));
            e.due("where no wall can be", -3, g.wall(9, 1));
            e.due("where one can be", 0, g.wall(10, 1));
            e.due("the wish", 0, g.lacks(0));
        });
        e.edge("IV", "IMAGES 0, 1 keep all", () -> {
            LateGlass g = new LateGlass();
            g.image(0);
            g.glass(3, 5, 0, 0);
            g.body();
            g.stay(0, 5, 5, 9);
            Edges.law(g, "late 3");
            g.image(1);
            g.back(0);
            e.due("no glass in a look's way", 7, g.look(0, EAST, 5, 1));
            e.due("no body in a look's way", 7, g.look(8, EAST, 5, 1));
            e.due("a wall where the glass was", 0, g.wall(3, 1));
            e.due("a wall where the body was", 0, g.wall(9, 1));
            e.due("another law", 0, Edges.law(g, "late 5"));
            g.back(1);
            e.due("a glass in a look's way", 1, g.look(0, EAST, 5, 4));
            e.due("a body in a look's way", 0, g.look(8, EAST, 5, 0));
            g.force(0);
            e.due("the law that was", 2, g.look(0, EAST, 5, 2));
        });
        e.edge("IV", "but the TAPE, FAULT, FADED, the latest WANDERING", () -> {
            LateGlass g = new LateGlass();
            g.image(0);
            Edges.law(g, "late");
            Edges.feed(g, 1, 2, 3);
            g.row();
            g.wander(0, 27);
            Edges.feed(g, 1, 2, 3, 4, 5);
            g.back(0);
            e.due("tape", 5, g.count(7));
            e.due("fault", 4, g.fault());
            e.due("faded", 1, g.faded());
            e.due("wandering", 19, g.drawn(1));
            e.due("the tape's bytes are there, too", 0, g.row());
            e.due("the tape's bytes are there, too", 2, g.faded());
        });
        e.edge("IV", "BACK to one all that it keeps is as it was then (IMAGES stay)", () -> {
            LateGlass g = new LateGlass();
            g.image(0);
            g.wall(1, 1);
            g.image(1);
            g.wall(2, 1);
            g.back(1);
            e.due("one wall", 1, g.count(6));
            g.back(0);
            e.due("none", 0, g.count(6));
            g.wall(3, 1);
            e.due("again", 0, g.back(1));
            e.due("what came since is gone", 0, g.wall(3, 0));
            e.due("one wall", 1, g.count(6));
            e.due("again", 0, g.back(0));
            e.due("none", 0, g.count(6));
            g.wall(5, 1);
            g.image(0);
            g.wall(5, 0);
            g.back(0);
            e.due("kept anew", 1, g.wall(5, 1));
        });
    }
}
