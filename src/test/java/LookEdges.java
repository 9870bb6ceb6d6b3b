/** Terms III: looks. */
final class LookEdges {
    private static final int NONE = Edges.NONE;
    private static final int NORTH = Edges.NORTH;
    private static final int EAST = Edges.EAST;
    private static final int SOUTH = Edges.SOUTH;
    private static final int WEST = Edges.WEST;
    private static final int[] DX = {0, 1, 0, -1};
    private static final int[] DY = {-1, 0, 1, 0};

    private LookEdges() {
    }

    static void add(Edges e) {
        ends(e);
        twoHundred(e);
        bodies(e);
        glasses(e);
        hoursAndBright(e);
        turning(e);
        points(e);
        seeing(e);
    }

    private static void ends(Edges e) {
        e.edge("III", "A LOOK from a CELL, a WAY and an HOUR is 1,000,000 bright", () -> {
            LateGlass g = new LateGlass();
            e.due("with points", 1000000, g.look(0, EAST, 0, 3));
            e.due("without", 1000000, g.look(0, NORTH, 0, 3));
        });
        e.edge("III", "and goes on CELL by CELL (the first is that next to it that WAY)", () -> {
            LateGlass g = new LateGlass();
            for (int i = 0; i < 7; i++) {
                e.due("cell " + i, 64 * 5 + 1 + i, g.point(0, EAST, 5, i));
            }
            g.body();
            g.stay(0, 0, 23, 0);
            e.due("not its own cell", NONE, g.look(0, EAST, 5, 0));
            g.stay(0, 0, 23, 1);
            e.due("the next one", 0, g.look(0, EAST, 5, 0));
        });
        e.edge("III", "it ENDS ahead of a WALL", () -> {
            LateGlass g = new LateGlass();
            g.wall(4, 1);
            e.due("three ahead of it", 3, g.look(0, EAST, 5, 1));
            e.due("its last", 64 * 5 + 3, g.point(0, EAST, 5, 2));
            g.wall(1, 1);
            e.due("at once", 0, g.look(0, EAST, 5, 1));
            e.due("from a wall", 2, g.look(1, EAST, 5, 1));
        });
        e.edge("III", "out of the house", () -> {
            LateGlass g = new LateGlass();
            e.due("north", 0, g.look(7, NORTH, 5, 1));
            e.due("east", 0, g.look(7, EAST, 5, 1));
            e.due("south", 0, g.look(56, SOUTH, 5, 1));
            e.due("west", 0, g.look(56, WEST, 5, 1));
            e.due("its last", 64 * 5 + 7, g.point(6, EAST, 5, 0));
            e.due("behind that", NONE, g.point(6, EAST, 5, 1));
        });
    }

    /**
     * Four glasses in a square, twelve cells round, one hour later each round: from (3, 2) in hour 23 the
     * 200th cell is (2, 5), the 201st would be (2, 4), both in hour 6.
     */
    private static LateGlass round() {
        LateGlass g = new LateGlass();
        g.glass(Edges.cell(2, 2), 0, 0, 0);
        g.glass(Edges.cell(5, 2), 1, 1, 0);
        g.glass(Edges.cell(5, 5), 0, 0, 0);
        g.glass(Edges.cell(2, 5), 1, 0, 0);
        g.body();
        return g;
    }

    private static void twoHundred(Edges e) {
        int from = Edges.cell(3, 2);
        e.edge("III", "and behind 200 CELLS", () -> {
            LateGlass g = round();
            e.due("so many", 200, g.look(from, EAST, 23, 1));
            e.due("the last", 64 * 6 + Edges.cell(2, 5), g.point(from, EAST, 23, 199));
            e.due("behind it", NONE, g.point(from, EAST, 23, 200));
            g.stay(0, 6, 6, Edges.cell(2, 5));
            e.due("seen in the 200th", 0, g.look(from, EAST, 23, 0));
            g.stay(0, 6, 6, Edges.cell(2, 4));
            e.due("not seen in the 201st", NONE, g.look(from, EAST, 23, 0));
            g.stay(0, 6, 6, Edges.cell(3, 5));
            e.due("seen in the 199th", 0, g.look(from, EAST, 23, 0));
            e.due("seen in the 199th", 199, g.look(from, EAST, 23, 1));
        });
        e.edge("III", "and behind 200 CELLS", () -> {
            LateGlass g = round();
            g.turn(1, 1, 0);
            g.turn(3, 2, 1);
            g.least(0);
            int bright = 1000000;
            for (int i = 0; i < 16; i++) {
                bright = bright * 9 / 10;
            }
            e.due("the 200th cell is a glass", bright * 9 / 10, g.look(from, EAST, 23, 3));
            e.due("from a cell further on it is the 199th", bright * 9 / 10, g.look(Edges.cell(4, 2), EAST, 23, 3));
            e.due("from a cell ahead it would be the 201st", bright, g.look(Edges.cell(2, 2), EAST, 23, 3));
            e.due("all four", 15, g.look(from, EAST, 23, 4));
        });
    }

    private static void bodies(Edges e) {
        e.edge("III", "In each CELL that it comes to: if a BODY that is not CLEAR is there in that HOUR (of some the lowest), it is SEEN, and the LOOK ENDS there", () -> {
            LateGlass g = new LateGlass();
            g.body();
            g.body();
            g.body();
            g.stay(2, 5, 5, 3);
            e.due("in that hour", 2, g.look(0, EAST, 5, 0));
            e.due("it ends there", 3, g.look(0, EAST, 5, 1));
            e.due("an hour earlier", NONE, g.look(0, EAST, 4, 0));
            e.due("an hour later", NONE, g.look(0, EAST, 6, 0));
            g.stay(1, 5, 5, 3);
            e.due("of two the lower", 1, g.look(0, EAST, 5, 0));
            g.stay(0, 5, 5, 6);
            e.due("the nearer, not the lowest", 1, g.look(0, EAST, 5, 0));
            g.stay(0, 5, 5, 3);
            e.due("of three the lowest", 0, g.look(0, EAST, 5, 0));
            Edges.force(g, "clear if body=0");
            e.due("of those not clear", 1, g.look(0, EAST, 5, 0));
            Edges.force(g, "clear if body<2");
            e.due("of those not clear", 2, g.look(0, EAST, 5, 0));
        });
        e.edge("III", "Else, if a GLASS is there", () -> {
            LateGlass g = new LateGlass();
            g.glass(3, 5, 1, 0);
            g.body();
            g.stay(0, 5, 5, 3);
            e.due("a body ahead of a glass", 0, g.look(0, EAST, 5, 0));
            e.due("a body ahead of a glass", 0, g.look(0, EAST, 5, 4));
            e.due("without one the glass", 1, g.look(0, EAST, 6, 4));
            Edges.force(g, "clear");
            e.due("behind a clear one the glass", 1, g.look(0, EAST, 5, 4));
        });
    }

    private static void glasses(Edges e) {
        e.edge("III", "it ENDS there, if that is COVERED", () -> {
            LateGlass g = new LateGlass();
            g.glass(3, 5, 1, 5);
            g.turn(0, 3, 1 << 5);
            e.due("so many points", 3, g.look(0, EAST, 5, 1));
            e.due("the hour stays", 5, g.look(0, EAST, 5, 2));
            e.due("bright stays", 1000000, g.look(0, EAST, 5, 3));
            e.due("by none", 0, g.look(0, EAST, 5, 4));
            e.due("in another hour", 1, g.look(0, EAST, 6, 4));
        });
        e.edge("III", "or flat and does not FACE the LOOK (one FACING north is looked at by a LOOK that goes south)", () -> {
            int middle = Edges.cell(3, 3);
            for (int facing = 0; facing < 4; facing++) {
                for (int way = 0; way < 4; way++) {
                    LateGlass g = new LateGlass();
                    g.glass(middle, 2 + facing, 1, 5);
                    int from = Edges.cell(3 - 2 * DX[way], 3 - 2 * DY[way]);
                    boolean faces = facing == NORTH && way == SOUTH || facing == SOUTH && way == NORTH
                        || facing == EAST && way == WEST || facing == WEST && way == EAST;
                    String what = "facing " + facing + " looked at by way " + way;
                    e.due(what, faces ? 1 : 0, g.look(from, way, 7, 4));
                    e.due(what + " bright", faces ? 500000 : 1000000, g.look(from, way, 7, 3));
                    int back = way == EAST || way == SOUTH ? 3 : 4;
                    e.due(what + " points", faces ? 2 + back : 2, g.look(from, way, 7, 1));
                }
            }
        });
    }

    private static void hoursAndBright(Edges e) {
        e.edge("III", "else the HOUR becomes as much earlier as it is LATE (it ENDS there, if that is below 0)", () -> {
            LateGlass g = new LateGlass();
            g.glass(3, 5, 4, 5);
            e.due("hour 0 can be", 0, g.look(0, EAST, 4, 2));
            e.due("hour 0 can be", 6, g.look(0, EAST, 4, 1));
            e.due("below 0: it ends", 3, g.look(0, EAST, 3, 1));
            e.due("below 0: no hour from behind", 3, g.look(0, EAST, 3, 2));
            e.due("below 0: bright as it was", 1000000, g.look(0, EAST, 3, 3));
            e.due("below 0: not by the glass", 0, g.look(0, EAST, 3, 4));
            g.turn(0, 1, 23);
            e.due("23 hours", 0, g.look(0, EAST, 23, 2));
            e.due("23 hours", 22, g.look(0, EAST, 22, 2));
            g.turn(0, 1, 0);
            e.due("none", 1, g.look(0, EAST, 0, 4));
        });
        e.edge("III", "bright becomes bright times (10 less DUST) / 10, cut (it ENDS there, if that is below LEAST)", () -> {
            LateGlass g = new LateGlass();
            g.glass(3, 5, 0, 5);
            g.least(500000);
            e.due("just LEAST", 6, g.look(0, EAST, 9, 1));
            e.due("just LEAST", 500000, g.look(0, EAST, 9, 3));
            g.least(500001);
            e.due("below LEAST: it ends", 3, g.look(0, EAST, 9, 1));
            e.due("below LEAST: what it fell to", 500000, g.look(0, EAST, 9, 3));
            e.due("below LEAST: not by the glass", 0, g.look(0, EAST, 9, 4));
            g.turn(0, 2, 0);
            g.least(1000000);
            e.due("dust 0 takes nothing", 1, g.look(0, EAST, 9, 4));
            e.due("no glass, no loss", 7, g.look(8, EAST, 9, 1));
            g.turn(0, 2, 10);
            g.least(1);
            e.due("dust 10 takes all", 0, g.look(0, EAST, 9, 4));
            e.due("dust 10 takes all", 0, g.look(0, EAST, 9, 3));
            g.least(0);
            e.due("0 is not below 0", 1, g.look(0, EAST, 9, 4));
        });
        e.edge("III", "bright becomes bright times (10 less DUST) / 10, cut", () -> {
            LateGlass g = new LateGlass();
            g.least(0);
            g.glass(7, 5, 0, 1);
            g.glass(0, 3, 0, 1);
            // 200 cells between two glasses that face one another: 29 of them are glasses.
            int bright = 1000000;
            for (int i = 0; i < 29; i++) {
                bright = bright * 9 / 10;
            }
            e.due("cut each time", bright, g.look(3, EAST, 9, 3));
            g.least(478297);
            e.due("seven times 9 / 10 are 478,296", 478296, g.look(3, EAST, 9, 3));
            e.due("at the seventh it ends", 4 + 6 * 7, g.look(3, EAST, 9, 1));
        });
    }

    private static void turning(Edges e) {
        e.edge("III", "and it goes on by another WAY: of / north for east, east for north, south for west, west for south", () -> {
            turn(e, 0, EAST, NORTH);
            turn(e, 0, NORTH, EAST);
            turn(e, 0, WEST, SOUTH);
            turn(e, 0, SOUTH, WEST);
        });
        e.edge("III", "of \\ west for north, north for west, south for east, east for south", () -> {
            turn(e, 1, NORTH, WEST);
            turn(e, 1, WEST, NORTH);
            turn(e, 1, EAST, SOUTH);
            turn(e, 1, SOUTH, EAST);
        });
        e.edge("III", "of flat ones back", () -> {
            turn(e, 2, SOUTH, NORTH);
            turn(e, 3, WEST, EAST);
            turn(e, 4, NORTH, SOUTH);
            turn(e, 5, EAST, WEST);
        });
        e.edge("III", "In the CELL itself nothing is SEEN behind that: it goes on to the next.", () -> {
            LateGlass g = new LateGlass();
            g.glass(3, 5, 1, 0);
            g.body();
            g.stay(0, 5, 5, 3);
            e.due("in the glass's cell an hour earlier", NONE, g.look(0, EAST, 6, 0));
            e.due("the cell is one point", 6, g.look(0, EAST, 6, 1));
            e.due("the next", 64 * 5 + 2, g.point(0, EAST, 6, 3));
            g.stay(0, 5, 5, 2);
            e.due("in the next", 0, g.look(0, EAST, 6, 0));
        });
        e.edge("III", "In the CELL itself nothing is SEEN behind that: it goes on to the next.", () -> {
            LateGlass g = new LateGlass();
            g.glass(0, 0, 0, 0);
            e.due("along the edge", 3 + 7, g.look(3, WEST, 6, 1));
            g.turn(0, 0, 1);
            e.due("out of the house at once", 3, g.look(3, WEST, 6, 1));
            e.due("it went on by the glass all the same", 1, g.look(3, WEST, 6, 4));
            g.turn(0, 0, 0);
            g.wall(8, 1);
            e.due("against a wall", 3, g.look(3, WEST, 6, 1));
            e.due("against a wall", 1, g.look(3, WEST, 6, 4));
        });
    }

    private static void turn(Edges e, int sort, int way, int then) {
        LateGlass g = new LateGlass();
        g.glass(Edges.cell(3, 3), sort, 0, 0);
        int from = Edges.cell(3 - 2 * DX[way], 3 - 2 * DY[way]);
        String what = "sort " + sort + " looked at by way " + way;
        e.due(what, 64 * 7 + Edges.cell(3, 3), g.point(from, way, 7, 1));
        e.due(what, 64 * 7 + Edges.cell(3 + DX[then], 3 + DY[then]), g.point(from, way, 7, 2));
    }

    private static void points(Edges e) {
        e.edge("III", "POINTS of a LOOK: the CELLS it comes to, each with the HOUR in which it comes there (ahead of what a GLASS there does)", () -> {
            LateGlass g = new LateGlass();
            g.glass(3, 5, 4, 0);
            e.due("at the glass", 64 * 9 + 3, g.point(0, EAST, 9, 2));
            e.due("behind it", 64 * 5 + 2, g.point(0, EAST, 9, 3));
            g.wall(2, 1);
            e.due("the glass as the last of them", 9, g.look(2, EAST, 9, 2));
            e.due("it went on all the same", 1, g.look(2, EAST, 9, 4));
        });
        e.edge("III", "the one where it ENDS too (not WALLS)", () -> {
            LateGlass g = new LateGlass();
            g.body();
            g.stay(0, 0, 23, 3);
            e.due("where a body is", 64 * 9 + 3, g.point(0, EAST, 9, 2));
            e.due("behind it", NONE, g.point(0, EAST, 9, 3));
            g.glass(11, 2, 0, 0);
            e.due("where a glass is", 64 * 9 + 11, g.point(8, EAST, 9, 2));
            e.due("behind it", NONE, g.point(8, EAST, 9, 3));
            g.wall(19, 1);
            e.due("ahead of a wall", 64 * 9 + 18, g.point(16, EAST, 9, 1));
            e.due("a wall", NONE, g.point(16, EAST, 9, 2));
        });
    }

    private static void seeing(Edges e) {
        e.edge("III", "From a CELL in an HOUR a BODY is SEEN, if one of the four LOOKS does.", () -> {
            int middle = Edges.cell(3, 3);
            for (int way = 0; way < 4; way++) {
                LateGlass g = new LateGlass();
                g.body();
                g.stay(0, 5, 5, Edges.cell(3 + 2 * DX[way], 3 + 2 * DY[way]));
                e.due("way " + way, 1, g.sees(middle, 5));
                e.due("way " + way + ", another hour", 0, g.sees(middle, 4));
                g.stay(0, 5, 5, Edges.cell(3 + DX[way] + DY[way], 3 + DX[way] + DY[way]));
                e.due("across", 0, g.sees(middle, 5));
            }
        });
        e.edge("III", "A BODY SEES another one, if that is SEEN from where it is (itself too)", () -> {
            LateGlass g = new LateGlass();
            g.body();
            g.body();
            g.stay(0, 5, 5, 0);
            g.stay(1, 5, 5, 4);
            e.due("another one", 0, g.late(0, 1, 5));
            e.due("not itself", NONE, g.late(0, 0, 5));
            g.glass(Edges.cell(0, 4), 2, 0, 0);
            e.due("itself", 0, g.late(0, 0, 5));
        });
        e.edge("III", "how LATE: the least of HOURS between.", () -> {
            LateGlass g = new LateGlass();
            g.body();
            g.stay(0, 0, 23, Edges.cell(3, 3));
            g.glass(Edges.cell(3, 0), 4, 7, 0);
            e.due("north alone", 7, g.late(0, 0, 20));
            g.glass(Edges.cell(6, 3), 5, 3, 0);
            e.due("east, too", 3, g.late(0, 0, 20));
            g.glass(Edges.cell(3, 6), 2, 5, 0);
            g.glass(Edges.cell(0, 3), 3, 20, 0);
            e.due("of four", 3, g.late(0, 0, 20));
            e.due("below hour 0", NONE, g.late(0, 0, 2));
            e.due("just hour 0", 3, g.late(0, 0, 3));
            g.turn(3, 1, 0);
            e.due("at once", 0, g.late(0, 0, 20));
        });
    }
}
