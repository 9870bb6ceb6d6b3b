import java.nio.charset.StandardCharsets;
import java.util.List;
import java.util.function.Consumer;

/** Each promise by hand: ordinary inputs, the edges that the document names, wrong inputs. */
public final class PromiseTest {
    private static final int NONE = LateGlass.NONE;
    private static final int MIN = Integer.MIN_VALUE;
    private static final int MAX = Integer.MAX_VALUE;
    private static final int NORTH = 0;
    private static final int EAST = 1;
    private static final int SOUTH = 2;
    private static final int WEST = 3;
    private static int wrong = 0;
    private static int asked = 0;

    private static void due(String what, long want, long got) {
        asked++;
        if (got != want) {
            wrong++;
            System.out.println(what + " answered " + got + ", due is " + want);
        }
    }

    private static int cell(int x, int y) {
        return 8 * y + x;
    }

    private static void feed(LateGlass g, byte[] bytes) {
        int before = g.count(7);
        for (int i = 0; i < bytes.length; i += 20) {
            int[] five = new int[5];
            for (int k = 0; k < 20; k++) {
                int b = i + k < bytes.length ? bytes[i + k] & 255 : 32;
                five[k / 4] = five[k / 4] << 8 | b;
            }
            g.feed(five[0], five[1], five[2], five[3], five[4]);
        }
        g.end(before + bytes.length);
    }

    private static int law(LateGlass g, String text) {
        feed(g, text.getBytes(StandardCharsets.ISO_8859_1));
        return g.law();
    }

    private static void force(LateGlass g, String text) {
        int law = law(g, text);
        due("law " + text, 0, law < 0 ? law : 0);
        g.force(law);
    }

    public static void main(String[] args) {
        newObject();
        walls();
        glasses();
        turning();
        bodies();
        leastBright();
        tape();
        rows();
        faults();
        lawNumbers();
        lawSums();
        lawTests();
        lawHeads();
        lawWords();
        lookSorts();
        lookFlat();
        lookEnds();
        lookRound();
        lookBodies();
        points();
        seeing();
        howLate();
        firstSeen();
        litCells();
        unseenHours();
        sightings();
        startCell();
        corridor();
        fitting();
        core();
        telling();
        spotsAndWishes();
        hanging();
        hungAndLaws();
        walking();
        soonerByTurning();
        wandering();
        images();
        counts();
        statuses();
        System.out.println("PromiseTest: " + asked + " answers, " + wrong + " wrong");
        if (wrong != 0) {
            System.exit(1);
        }
    }

    private static void newObject() {
        LateGlass g = new LateGlass();
        for (int what = 0; what <= 12; what++) {
            due("P1 count " + what, 0, g.count(what));
        }
        due("P1 no law in force", NONE, g.count(13));
        due("P1 status", 0, g.status());
        due("P1 faded", 0, g.faded());
        due("P1 fault", NONE, g.fault());
        due("P1 drawn", NONE, g.drawn(0));
        due("P1 no image", -2, g.back(0));
        due("P1 least", 1000, g.least(0));
        due("P1 start", NONE, g.start(3));
        due("NONE", -1, LateGlass.NONE);
    }

    private static void walls() {
        LateGlass g = new LateGlass();
        due("P2 first", 0, g.wall(5, 1));
        due("P2 again", 1, g.wall(5, 1));
        due("P2 away", 1, g.wall(5, 0));
        due("P2 away again", 0, g.wall(5, 0));
        due("P2 edge", 0, g.wall(63, 1));
        due("P2 edge", 0, g.wall(0, 1));
        due("P2 count", 2, g.count(6));
        for (int bad : new int[] {-1, 64, MIN, MAX}) {
            due("P2 cell " + bad, -1, g.wall(bad, 1));
        }
        due("P2 is", -1, g.wall(5, 2));
        due("P2 is", -1, g.wall(5, -1));
        g.glass(10, 0, 0, 0);
        due("P2 glass", -3, g.wall(10, 1));
        due("P2 -1 ahead of -3", -1, g.wall(10, 2));
        g.body();
        g.stay(0, 23, 23, 11);
        due("P2 body in some hour", -3, g.wall(11, 1));
        g.stay(0, 23, 23, NONE);
        due("P2 body gone", 0, g.wall(11, 1));
        g.spot(12, 0, 0);
        due("P2 spot", -3, g.wall(12, 1));
        g.start(13);
        due("P2 start", -3, g.wall(13, 1));
        g.start(14);
        due("P2 start gone", 0, g.wall(13, 1));
        due("P2 refused changes nothing", 4, g.count(6));
    }

    private static void glasses() {
        LateGlass g = new LateGlass();
        g.wall(1, 1);
        g.spot(2, 0, 0);
        for (int[] bad : new int[][] {{-1, 0, 0, 0}, {64, 0, 0, 0}, {0, -1, 0, 0}, {0, 6, 0, 0},
            {0, 0, -1, 0}, {0, 0, 24, 0}, {0, 0, 0, -1}, {0, 0, 0, 11}, {MIN, MAX, MIN, MAX}}) {
            due("P3 bad", -1, g.glass(bad[0], bad[1], bad[2], bad[3]));
        }
        due("P3 wall", -3, g.glass(1, 0, 0, 0));
        due("P3 spot", -3, g.glass(2, 0, 0, 0));
        for (int i = 0; i < 6; i++) {
            due("P3 number", i, g.glass(10 + i, i, 23, 10));
        }
        due("P3 glass", -3, g.glass(10, 0, 0, 0));
        due("P3 no room", -5, g.glass(40, 0, 0, 0));
        due("P3 -1 ahead of -5", -1, g.glass(40, 0, 0, 11));
        due("P3 count", 6, g.count(0));
        LateGlass h = new LateGlass();
        h.body();
        h.stay(0, 0, 23, 9);
        h.start(8);
        due("P3 with a body", 0, h.glass(9, 0, 0, 0));
        due("P3 at the start", 1, h.glass(8, 0, 0, 0));
    }

    private static void turning() {
        LateGlass g = new LateGlass();
        g.glass(20, 3, 7, 4);
        int[] are = {20, 3, 7, 4, 0};
        for (int what = 0; what < 5; what++) {
            due("P5 of " + what, are[what], g.of(0, what));
        }
        due("P5 what", NONE, g.of(0, 5));
        due("P5 what", NONE, g.of(0, -1));
        due("P5 glass", NONE, g.of(1, 0));
        due("P5 glass", NONE, g.of(-1, 0));
        due("P5 glass", NONE, g.of(MAX, MAX));
        due("P4 sort", 3, g.turn(0, 0, 5));
        due("P4 late", 7, g.turn(0, 1, 23));
        due("P4 dust", 4, g.turn(0, 2, 10));
        due("P4 covered", 0, g.turn(0, 3, (1 << 24) - 1));
        due("P4 covered", (1 << 24) - 1, g.turn(0, 3, 1));
        due("P5 sort", 5, g.of(0, 1));
        due("P5 late", 23, g.of(0, 2));
        due("P5 dust", 10, g.of(0, 3));
        due("P5 covered", 1, g.of(0, 4));
        for (int[] bad : new int[][] {{0, 6}, {0, -1}, {1, 24}, {1, -1}, {2, 11}, {2, -1}, {3, 1 << 24},
            {3, -1}, {4, 0}, {-1, 0}, {MIN, 0}, {MAX, 0}}) {
            due("P4 bad " + bad[0] + " " + bad[1], -1, g.turn(0, bad[0], bad[1]));
            due("P4 -1 ahead of -2", -1, g.turn(1, bad[0], bad[1]));
        }
        due("P4 none such", -2, g.turn(1, 0, 0));
        due("P4 none such", -2, g.turn(-1, 0, 0));
        due("P4 none such", -2, g.turn(MAX, 3, 0));
        due("P4 refused changes nothing", 5, g.of(0, 1));
    }

    private static void bodies() {
        LateGlass g = new LateGlass();
        due("P7 none such", -2, g.stay(0, 0, 0, 0));
        due("P8 none such", NONE, g.where(0, 0));
        for (int i = 0; i < 5; i++) {
            due("P6 number", i, g.body());
            due("P6 out", NONE, g.where(i, 12));
        }
        due("P6 no room", -5, g.body());
        g.wall(9, 1);
        due("P7", 0, g.stay(4, 3, 5, 63));
        due("P8 ahead", NONE, g.where(4, 2));
        due("P8 from", 63, g.where(4, 3));
        due("P8 to", 63, g.where(4, 5));
        due("P8 behind", NONE, g.where(4, 6));
        due("P7 one hour", 0, g.stay(4, 4, 4, 0));
        due("P8 one hour", 0, g.where(4, 4));
        due("P8 beside it", 63, g.where(4, 5));
        due("P7 out", 0, g.stay(4, 0, 3, NONE));
        due("P8 out", NONE, g.where(4, 3));
        due("P7 wall", -3, g.stay(4, 0, 23, 9));
        due("P7 to ahead of from", -1, g.stay(4, 5, 4, 0));
        for (int[] bad : new int[][] {{-1, 0, 0}, {0, 24, 0}, {24, 24, 0}, {0, 0, 64}, {0, 0, -2}, {MIN, MAX, 0}}) {
            due("P7 bad", -1, g.stay(4, bad[0], bad[1], bad[2]));
            due("P7 -1 ahead of -2", -1, g.stay(5, bad[0], bad[1], bad[2]));
        }
        due("P7 -2 ahead of -3", -2, g.stay(5, 0, 0, 9));
        due("P7 none such", -2, g.stay(-1, 0, 0, 0));
        due("P8 hour", NONE, g.where(4, 24));
        due("P8 hour", NONE, g.where(4, -1));
        due("P8 body", NONE, g.where(5, 0));
        due("P8 body", NONE, g.where(MIN, MIN));
        due("P8 refused changes nothing", 63, g.where(4, 5));
    }

    private static void leastBright() {
        LateGlass g = new LateGlass();
        due("P9 first", 1000, g.least(1000000));
        due("P9 then", 1000000, g.least(0));
        due("P9 bad", -1, g.least(-1));
        due("P9 bad", -1, g.least(1000001));
        due("P9 bad", -1, g.least(MIN));
        due("P9 stays", 0, g.least(5));
    }

    private static void tape() {
        LateGlass g = new LateGlass();
        for (int i = 1; i <= 20; i++) {
            due("P10 how many", 20 * i, g.feed(MAX, MIN, 0, -1, 1));
        }
        due("P10 full", NONE, g.feed(0, 0, 0, 0, 0));
        due("P10 count", 400, g.count(7));
        due("P11 all", 400, g.end(400));
        due("P11 more", NONE, g.end(401));
        due("P11 below", NONE, g.end(-1));
        due("P11 less", 381, g.end(381));
        due("P10 would be more", NONE, g.feed(0, 0, 0, 0, 0));
        due("P11 less", 380, g.end(380));
        due("P10 just", 400, g.feed(0, 0, 0, 0, 0));
        due("P11 none", 0, g.end(0));
        due("P11 count", 0, g.count(7));
        due("P10 none is no refusal", 0, g.count(8));
        // The highest byte first: body 0, hours 1 .. 2, cell 3; then body 0, hour 4, out.
        g.body();
        g.feed(0x00010203, 0x00040405, 0x000404FF, 0x00060607, 0x00070708);
        due("P10 five numbers", 5, g.row());
        due("P10 bytes", 3, g.where(0, 2));
        due("P10 bytes", NONE, g.where(0, 4));
        due("P10 bytes", 7, g.where(0, 6));
        due("P10 bytes", 8, g.where(0, 7));
    }

    private static void rows() {
        LateGlass g = new LateGlass();
        due("P12 empty", -6, g.row());
        due("P13 ahead of any", 0, g.faded());
        g.body();
        g.wall(9, 1);
        byte[] stays = {
            0, 0, 23, 5,
            0, 1, 1, 63,
            0, 2, 2, (byte) 255,
            1, 0, 0, 0,
            0, 24, 24, 0,
            0, 0, 24, 0,
            0, 5, 4, 0,
            0, 6, 6, 64,
            0, 6, 6, (byte) 254,
            0, 6, 6, 9,
            (byte) 255, 0, 0, 0,
            0, 7, 7,
        };
        feed(g, stays);
        due("P12 came", 3, g.row());
        due("P13 faded", 9, g.faded());
        due("P12 the tape is empty then", 0, g.count(7));
        due("P12 stay", 5, g.where(0, 0));
        due("P12 a later one", 63, g.where(0, 1));
        due("P12 out", NONE, g.where(0, 2));
        due("P12 faded: none", 5, g.where(0, 6));
        due("P12 cut off: none", 5, g.where(0, 7));
        due("P12 empty", -6, g.row());
        due("P13 a refused one does not count", 9, g.faded());
        feed(g, new byte[] {0, 0, 0, 1});
        due("P12 whole", 1, g.row());
        due("P13 none", 0, g.faded());
        feed(g, new byte[] {0});
        due("P12 one byte", 0, g.row());
        due("P13 one byte", 1, g.faded());
    }

    private static void faultAt(int place, String text) {
        LateGlass g = new LateGlass();
        due("P14 '" + text + "'", place == NONE ? 0 : -6, law(g, text));
        due("P15 '" + text + "'", place, g.fault());
        due("P14 the tape is empty then", 0, g.count(7));
        due("P14 count", place == NONE ? 1 : 0, g.count(2));
    }

    private static void faults() {
        faultAt(0, "");
        faultAt(3, "   ");
        faultAt(4, "late");
        faultAt(6, "late  ");
        faultAt(NONE, "late 1");
        faultAt(NONE, "late1");
        faultAt(NONE, "  late 1  ");
        faultAt(NONE, "late1if x<2;dust3;covers;clear");
        faultAt(NONE, "late 1000");
        faultAt(NONE, "late 0001000");
        faultAt(5, "late 1001");
        faultAt(5, "late 99999999999999999999999");
        faultAt(7, "late 1;");
        faultAt(9, "late 1;  ");
        faultAt(7, "late 1;;late 2");
        faultAt(0, ";late 1");
        faultAt(7, "late 1 late 2");
        faultAt(0, "lates 1");
        faultAt(0, "latez 1");
        faultAt(5, "late xz");
        faultAt(0, "Late 1");
        faultAt(0, ";".repeat(400));
        faultAt(NONE, " ".repeat(394) + "late 1");
        faultAt(400, " ".repeat(395) + "late ");
        faultAt(0, "if x=1");
        faultAt(6, "late 1\t");
        faultAt(6, "late 1" + (char) 233);
        faultAt(6, "late 2x");
        faultAt(6, "late x2");
        faultAt(5, "late xy");
        faultAt(5, "late -1");
        faultAt(5, "late (1)");
        faultAt(7, "late 1+");
        faultAt(7, "late 1+*2");
        faultAt(8, "late [1+]");
        faultAt(7, "late [1");
        faultAt(7, "late 1 ]");
        faultAt(9, "late 1 if");
        faultAt(NONE, "covers");
        faultAt(7, "covers 1");
        faultAt(6, "clear covers");
        faultAt(10, "clear if x");
        faultAt(NONE, "clear if x=1");
        faultAt(15, "clear if x<1 or");
        faultAt(13, "clear if x<1 x");
        faultAt(11, "clear if x<<1");
        faultAt(12, "clear if x<1=1");
        faultAt(13, "clear if (x<1");
        faultAt(12, "clear if x<1)");
        faultAt(11, "clear if [x<1]");
        faultAt(13, "clear if (x+1)<2");
        faultAt(NONE, "clear if [x+1]<2");
        faultAt(9, "clear if if x=1");
        faultAt(13, "clear if x=1 if y=1");
        faultAt(NONE, "clear if not not x=1");
        faultAt(NONE, "clear if not(x=1)or y=2 and not y=3");
        faultAt(11, "clear if x not =1");
        StringBuilder nots = new StringBuilder("clear if");
        for (int i = 0; i < 97; i++) {
            nots.append(" not");
        }
        faultAt(NONE, nots + " 1=2");
        faultAt(nots.length(), nots.toString());
        String eleven = "late 1;late 2;late 3;late 4;late 5;late 6;late 7;late 8;late 9;late 1;late 2;";
        faultAt(NONE, eleven + "late 3");
        faultAt(eleven.length() + 7, eleven + "late 3;");
        faultAt(eleven.length() + 8, eleven + "late 3; late 4");
        StringBuilder parts = new StringBuilder("late 1");
        for (int i = 0; i < 24; i++) {
            parts.append("+x+1");
        }
        faultAt(NONE, parts + "+y");
        faultAt(parts.length() + 3, parts + "+y+1");
        faultAt(parts.length() + 6, parts + "+y if hour<1");
        faultAt(parts.length() + 5, parts + "+y+[[1]]");
        faultAt(parts.length() + 8, parts + "+y;late x");
        faultAt(NONE, parts + "+y;covers");
        faultAt(NONE, "late [[[[[[[[1]]]]]]]]");
        faultAt(13, "late [[[[[[[[[1]]]]]]]]]");
        faultAt(NONE, "clear if ((((([[[1]]]=1)))))");
        faultAt(17, "clear if (((((([[[1]]]=1))))))");
        faultAt(17, "clear if (((((((((1=1)))))))))");
        faultAt(NONE, "late [1]+[1]+[1]+[1]+[1]+[1]+[1]+[1]+[1]+[1]*[[1]-[1]]");
    }

    private static void lawNumbers() {
        LateGlass g = new LateGlass();
        due("P16 none such", -2, g.force(0));
        due("P16 none", NONE, g.force(NONE));
        for (int i = 0; i < 6; i++) {
            due("P14 number", i, law(g, "late " + i));
        }
        due("P14 no room, ahead of reading", -5, law(g, "what"));
        due("P14 the tape is empty then, too", 0, g.count(7));
        due("P15 it read no text", NONE, g.fault());
        due("P16 first", NONE, g.force(5));
        due("P16 then", 5, g.force(0));
        due("P16 none such", -2, g.force(6));
        due("P16 none such", -2, g.force(-2));
        due("P16 none such", -2, g.force(MIN));
        due("P16 stays", 0, g.count(13));
        due("P16 none", 0, g.force(NONE));
        due("P16 none", NONE, g.count(13));
        LateGlass h = new LateGlass();
        law(h, "what");
        due("P15 fault", 0, h.fault());
        law(h, "late");
        due("P15 the latest", 4, h.fault());
        law(h, "late 1");
        due("P15 none", NONE, h.fault());
        h.row();
        due("P15 of law alone", NONE, h.fault());
    }

    /** Glass 1 in (5, 3), facing west, 9 hours late, is looked at from (1, 3) in hour 23. */
    private static LateGlass mirror() {
        LateGlass g = new LateGlass();
        g.least(0);
        g.glass(63, 0, 0, 0);
        g.glass(cell(5, 3), 5, 9, 2);
        return g;
    }

    private static int lateBy(String text) {
        LateGlass g = mirror();
        force(g, text);
        return 23 - g.look(cell(1, 3), EAST, 23, 2);
    }

    private static void lawSums() {
        due("P17 no law", 9, 23 - mirror().look(cell(1, 3), EAST, 23, 2));
        Object[][] sums = {
            {"0", 0}, {"1", 1}, {"23", 23}, {"24", 23}, {"1000", 23}, {"0-1", 0}, {"0-1000*1000", 0},
            {"1+2*3", 7}, {"[1+2]*2", 6}, {"2*3+1", 7}, {"10-2-3", 5}, {"20/5/2", 2}, {"20/[5-1]", 5},
            {"7/2", 3}, {"[0-7]/2+5", 2}, {"7/[0-2]+5", 2}, {"2*7/4", 3}, {"7/4*2", 2},
            {"1000*1000*1000/[1000*1000*100]", 10}, {"[0-1000*1000*1000]/[1000*1000*100]+12", 2},
            {"x/0", 9}, {"0/0", 9}, {"1/[x-5]", 9}, {"1000*1000*1000+1-1000*1000*1000", 9},
            {"0-1000*1000*1000-1+1000*1000*1000", 9}, {"[1000*1000+1]*1000/[1000*1000*100]", 9},
            {"1000*1000*1000*1000*1000*1000*1000*1000*1000*1000*1000*0", 9}, {"0*[1/0]", 9},
        };
        for (Object[] sum : sums) {
            due("II late " + sum[0], (Integer) sum[1], lateBy("late " + sum[0]));
        }
    }

    private static void lawTests() {
        Object[][] tests = {
            {"1<2", 1}, {"2<2", 0}, {"2>1", 1}, {"2>2", 0}, {"2=2", 1}, {"2=3", 0},
            {"not 1=2", 1}, {"not not 1=2", 0}, {"not not not 1=2", 1}, {"not(1=2)", 1},
            {"1=1 or 1=1 and 1=2", 1}, {"(1=1 or 1=1) and 1=2", 0}, {"1=2 and 1=2 or 1=1", 1},
            {"1=2 and (1=2 or 1=1)", 0}, {"not 1=2 and 1=2", 0}, {"not (1=2 and 1=2)", 1},
            {"1=2 or 1=2 or 1=1", 1}, {"1=2 or 1=2 or 1=2", 0}, {"1=1 and 1=1 and 1=1", 1},
            {"1=1 and 1=1 and 1=2", 0}, {"1=1 or 1/0=1", 1}, {"1/0=1 or 1=1", 0}, {"1=2 and 1/0=1", 0},
            {"not (1=2 and 1/0=1)", 1}, {"not 1/0=1", 0}, {"not (1/0=1 and 1=2)", 0}, {"1=2 or 1/0=1", 0},
            {"not (1=2 or 1/0=1)", 0}, {"1=1 and 1=2 and 1/0=1 or 1=1", 1}, {"1=1 or 1=2 or 1/0=1", 1},
            {"1000*1000*1000+1>0", 0}, {"not 1000*1000*1000+1<0", 0}, {"1000*1000*1000>0", 1},
            {"(1=1 or 1/0=1) and 1=1", 1}, {"1=1 and (1=2 or 1=1 or 1/0=1)", 1},
        };
        for (Object[] test : tests) {
            int want = (Integer) test[1] == 1 ? 4 : 9;
            due("II if " + test[0], want, lateBy("late 4 if " + test[0]));
        }
    }

    private static void lawHeads() {
        due("II the last", 4, lateBy("late 3;late 4"));
        due("II the last that holds", 3, lateBy("late 3;late 4 if 1=2"));
        due("II the last that holds", 3, lateBy("late 3;late 4/0"));
        due("II of each head", 3, lateBy("late 3;dust 4;covers if 1=2;clear"));
        due("II a broken sum does not hold", 9, lateBy("late 1/0 if 1=1"));
        due("II told is the sum", 6, lateBy("late 1+5 if 2+3=5 and 1=1"));
        LateGlass g = mirror();
        due("P17 dust", 800000, g.look(cell(1, 3), EAST, 23, 3));
        force(g, "dust 3");
        due("II dust", 700000, g.look(cell(1, 3), EAST, 23, 3));
        due("II its own late", 14, g.look(cell(1, 3), EAST, 23, 2));
        force(g, "dust 0-3");
        due("II dust, the nearest", 1000000, g.look(cell(1, 3), EAST, 23, 3));
        force(g, "dust 11");
        due("II dust, the nearest", 0, g.look(cell(1, 3), EAST, 23, 3));
        force(g, "dust 5 if x=4");
        due("II its own dust", 800000, g.look(cell(1, 3), EAST, 23, 3));
        force(g, "covers if hour>20");
        due("II covered", 4, g.look(cell(1, 3), EAST, 23, 1));
        due("II covered", 0, g.look(cell(1, 3), EAST, 23, 4));
        due("II not covered", 2, g.look(cell(1, 3), EAST, 20, 4));
        LateGlass h = mirror();
        h.turn(1, 3, 1 << 23);
        due("P4 covered", 0, h.look(cell(1, 3), EAST, 23, 4));
        due("P4 not covered", 2, h.look(cell(1, 3), EAST, 22, 4));
        force(h, "late 0");
        due("II told to be covered", 0, h.look(cell(1, 3), EAST, 23, 4));
        LateGlass b = new LateGlass();
        b.body();
        b.body();
        b.stay(0, 0, 23, cell(2, 0));
        b.stay(1, 0, 23, cell(4, 0));
        due("P17 the nearer", 0, b.look(0, EAST, 5, 0));
        force(b, "clear if body=0");
        due("II looked through", 1, b.look(0, EAST, 5, 0));
        force(b, "clear");
        due("II all looked through", NONE, b.look(0, EAST, 5, 0));
        due("II all looked through", 7, b.look(0, EAST, 5, 1));
        force(b, "clear if 1/0=1");
        due("II broken", 0, b.look(0, EAST, 5, 0));
    }

    private static void lawWords() {
        due("II x", 5, lateBy("late x"));
        due("II y", 3, lateBy("late y"));
        due("II hour", 23, lateBy("late hour"));
        due("II way", 1, lateBy("late way"));
        due("II steps", 4, lateBy("late steps"));
        due("II bright", 10, lateBy("late bright/100"));
        due("II glass", 1, lateBy("late glass"));
        due("II body of a glass", 0, lateBy("late body+1"));
        due("II body of a glass", 6, lateBy("late 6 if body=0-1"));
        LateGlass g = new LateGlass();
        g.least(0);
        g.body();
        g.body();
        g.stay(1, 0, 23, cell(3, 2));
        due("II not clear", 1, g.look(cell(0, 2), EAST, 9, 0));
        force(g, "clear if glass=0-1 and body=1 and x=3 and y=2 and hour=9 and way=1 and steps=3 and bright=1000");
        due("II of a body", NONE, g.look(cell(0, 2), EAST, 9, 0));
        due("II in another hour", 1, g.look(cell(0, 2), EAST, 8, 0));
        due("II from nearer", 1, g.look(cell(1, 2), EAST, 9, 0));
        due("II by another way", 1, g.look(cell(3, 5), NORTH, 9, 0));
        // The glass in (0, 2) is the 13th cell; behind it 630,000 bright: the body is clear no more.
        g.glass(cell(7, 2), 5, 2, 1);
        g.glass(cell(0, 2), 3, 1, 3);
        force(g, "clear if bright > 899 and steps < 12;late 3 if bright=900 and way=3 and hour=7 and steps=13");
        due("II further on", 1, g.look(cell(1, 2), EAST, 9, 0));
        due("II further on", 4, g.look(cell(1, 2), EAST, 9, 2));
        due("II further on", 630000, g.look(cell(1, 2), EAST, 9, 3));
        LateGlass h = new LateGlass();
        h.least(0);
        h.glass(cell(7, 0), 5, 0, 9);
        h.glass(cell(0, 0), 3, 0, 9);
        force(h, "dust 9 if bright > 1;dust 1 if bright=10;covers if bright=9");
        due("II thousandths are cut", 9000, h.look(cell(3, 0), EAST, 9, 3));
    }

    private static void lookSorts() {
        int[][] slash = {{NORTH, EAST}, {EAST, NORTH}, {SOUTH, WEST}, {WEST, SOUTH}};
        int[][] backslash = {{NORTH, WEST}, {WEST, NORTH}, {EAST, SOUTH}, {SOUTH, EAST}};
        turns(0, slash);
        turns(1, backslash);
    }

    private static final int[] DX = {0, 1, 0, -1};
    private static final int[] DY = {-1, 0, 1, 0};

    private static void turns(int sort, int[][] ways) {
        for (int[] way : ways) {
            LateGlass g = new LateGlass();
            g.glass(cell(3, 3), sort, 1, 0);
            int from = cell(3 - 2 * DX[way[0]], 3 - 2 * DY[way[0]]);
            int next = cell(3 + DX[way[1]], 3 + DY[way[1]]);
            due("III sort " + sort + " way " + way[0], 64 * 6 + next, g.point(from, way[0], 7, 2));
            due("III at the glass", 64 * 7 + cell(3, 3), g.point(from, way[0], 7, 1));
        }
    }

    private static void lookFlat() {
        for (int facing = 0; facing < 4; facing++) {
            for (int way = 0; way < 4; way++) {
                LateGlass g = new LateGlass();
                g.glass(cell(3, 3), 2 + facing, 0, 0);
                int from = cell(3 - 2 * DX[way], 3 - 2 * DY[way]);
                boolean faces = facing == (way + 2) % 4;
                due("III facing " + facing + " way " + way, faces ? 1 : 0, g.look(from, way, 7, 4));
                int back = 64 * 7 + cell(3 - DX[way], 3 - DY[way]);
                due("III back", faces ? back : NONE, g.point(from, way, 7, 2));
                due("III the eye's own cell", faces ? 64 * 7 + from : NONE, g.point(from, way, 7, 3));
            }
        }
    }

    private static void lookEnds() {
        LateGlass g = new LateGlass();
        due("P17 out of the house", 0, g.look(0, NORTH, 5, 1));
        due("P17 no point", NONE, g.look(0, NORTH, 5, 2));
        due("P17 no point", 1000000, g.look(0, NORTH, 5, 3));
        due("P17 no point", 0, g.look(0, NORTH, 5, 4));
        due("P17 to the edge", 7, g.look(0, EAST, 5, 1));
        due("P17 nobody", NONE, g.look(0, EAST, 5, 0));
        g.wall(4, 1);
        due("P17 ahead of a wall", 3, g.look(0, EAST, 5, 1));
        due("P17 from a wall", 3, g.look(4, EAST, 5, 1));
        for (int[] bad : new int[][] {{-1, 0, 0, 0}, {64, 0, 0, 0}, {0, -1, 0, 0}, {0, 4, 0, 0}, {0, 0, -1, 0},
            {0, 0, 24, 0}, {0, 1, 0, 5}, {0, 1, 0, -1}, {MIN, MIN, MIN, MIN}, {MAX, MAX, MAX, MAX}}) {
            due("P17 bad", NONE, g.look(bad[0], bad[1], bad[2], bad[3]));
        }
        LateGlass h = new LateGlass();
        h.glass(cell(3, 0), 5, 4, 5);
        due("P17 hour just 0", 0, h.look(0, EAST, 4, 2));
        due("P17 hour just 0", 1, h.look(0, EAST, 4, 4));
        due("P17 below hour 0", 3, h.look(0, EAST, 3, 1));
        due("P17 below hour 0: bright as it was", 1000000, h.look(0, EAST, 3, 3));
        due("P17 below hour 0", 0, h.look(0, EAST, 3, 4));
        due("P17 below hour 0", 3, h.look(0, EAST, 3, 2));
        h.least(500000);
        due("P17 just least", 6, h.look(0, EAST, 9, 1));
        h.least(500001);
        due("P17 below least", 3, h.look(0, EAST, 9, 1));
        due("P17 below least: bright in the end", 500000, h.look(0, EAST, 9, 3));
        due("P17 below least", 0, h.look(0, EAST, 9, 4));
        due("P17 below least", 9, h.look(0, EAST, 9, 2));
        h.turn(0, 3, 1 << 9);
        due("P17 covered: bright as it was", 1000000, h.look(0, EAST, 9, 3));
    }

    /** Four glasses in a square: twelve cells round, so that the 200th is that in (2, 5). */
    private static void lookRound() {
        LateGlass g = new LateGlass();
        g.least(0);
        g.glass(cell(2, 2), 0, 0, 0);
        g.glass(cell(5, 2), 1, 0, 0);
        g.glass(cell(5, 5), 0, 0, 0);
        g.glass(cell(2, 5), 1, 0, 1);
        due("P17 behind 200 cells", 200, g.look(cell(3, 2), EAST, 8, 1));
        due("P18 the last", 64 * 8 + cell(2, 5), g.point(cell(3, 2), EAST, 8, 199));
        due("P18 none", NONE, g.point(cell(3, 2), EAST, 8, 200));
        due("P17 all", 15, g.look(cell(3, 2), EAST, 8, 4));
        int bright = 1000000;
        for (int i = 0; i < 17; i++) {
            bright = bright * 9 / 10;
        }
        due("P17 seventeen times dust", bright, g.look(cell(3, 2), EAST, 8, 3));
        due("P22 each cell once", 12 + 2 + 4, g.lit(cell(3, 2), 8, NONE));
        g.turn(0, 1, 3);
        due("P17 hours used up", 12 * 3 - 1, g.look(cell(3, 2), EAST, 8, 1));
        due("P17 hours used up", 2, g.look(cell(3, 2), EAST, 8, 2));
    }

    private static void lookBodies() {
        LateGlass g = new LateGlass();
        g.body();
        g.body();
        g.stay(1, 5, 5, 3);
        due("P17 that hour", 1, g.look(0, EAST, 5, 0));
        due("P17 ends there", 3, g.look(0, EAST, 5, 1));
        due("P17 another hour", NONE, g.look(0, EAST, 4, 0));
        g.stay(0, 5, 5, 3);
        due("P17 of some the lowest", 0, g.look(0, EAST, 5, 0));
        g.glass(3, 5, 1, 0);
        due("P17 a body ahead of the glass", 0, g.look(0, EAST, 5, 0));
        due("P17 a body ahead of the glass", 0, g.look(0, EAST, 5, 4));
        force(g, "clear if body = 0");
        due("P17 of those not clear", 1, g.look(0, EAST, 5, 0));
        // Behind a glass nothing is seen in its cell: the look comes in hour 6, goes on in hour 5.
        due("P17 not in the glass's cell", 6, g.look(0, EAST, 6, 1));
        due("P17 not in the glass's cell", NONE, g.look(0, EAST, 6, 0));
        g.stay(1, 5, 5, 0);
        due("P17 the eye's cell, late", 1, g.look(0, EAST, 6, 0));
        due("P17 not in the eye's cell itself", NONE, g.look(0, SOUTH, 5, 0));
    }

    private static void points() {
        LateGlass g = new LateGlass();
        g.glass(cell(4, 0), 1, 3, 0);
        due("P18 first", 64 * 9 + 1, g.point(0, EAST, 9, 0));
        due("P18 glass, ahead of what it does", 64 * 9 + 4, g.point(0, EAST, 9, 3));
        due("P18 behind it", 64 * 6 + 12, g.point(0, EAST, 9, 4));
        due("P18 last", 64 * 6 + 60, g.point(0, EAST, 9, 10));
        due("P18 none", NONE, g.point(0, EAST, 9, 11));
        due("P18 none", NONE, g.point(0, EAST, 9, -1));
        due("P18 none", NONE, g.point(0, EAST, 9, MAX));
        for (int[] bad : new int[][] {{-1, 0, 0}, {64, 0, 0}, {0, -1, 0}, {0, 4, 0}, {0, 1, -1}, {0, 1, 24}}) {
            due("P18 bad", NONE, g.point(bad[0], bad[1], bad[2], 0));
        }
    }

    private static void seeing() {
        LateGlass g = new LateGlass();
        for (int i = 0; i < 5; i++) {
            g.body();
        }
        g.stay(0, 3, 3, cell(3, 0));
        g.stay(2, 3, 3, cell(7, 3));
        g.stay(4, 3, 3, cell(3, 7));
        g.stay(1, 3, 3, cell(3, 3));
        g.stay(3, 3, 3, cell(0, 0));
        due("P19", 1 + 4 + 16, g.sees(cell(3, 3), 3));
        due("P19", 0, g.sees(cell(3, 3), 4));
        due("P19", 2 + 8, g.sees(cell(0, 3), 3));
        due("P19 bad", NONE, g.sees(-1, 3));
        due("P19 bad", NONE, g.sees(64, 3));
        due("P19 bad", NONE, g.sees(0, -1));
        due("P19 bad", NONE, g.sees(0, 24));
    }

    private static void howLate() {
        LateGlass g = new LateGlass();
        g.body();
        g.body();
        g.stay(0, 0, 23, 0);
        g.glass(3, 5, 2, 0);
        due("P20 himself", 2, g.late(0, 0, 5));
        due("P20 himself, ahead of it", NONE, g.late(0, 0, 1));
        g.glass(cell(0, 3), 2, 1, 0);
        due("P20 the least", 1, g.late(0, 0, 5));
        due("P20 he does not", NONE, g.late(0, 1, 5));
        g.stay(1, 5, 5, 2);
        due("P20 at once", 0, g.late(0, 1, 5));
        due("P20 the other one", 0, g.late(1, 0, 5));
        due("P20 is out", NONE, g.late(1, 0, 6));
        due("P20 seen in the past", 2, g.late(0, 1, 7));
        due("P20 bad", NONE, g.late(2, 0, 5));
        due("P20 bad", NONE, g.late(0, 2, 5));
        due("P20 bad", NONE, g.late(-1, 0, 5));
        due("P20 bad", NONE, g.late(0, -1, 5));
        due("P20 bad", NONE, g.late(0, 0, 24));
        due("P20 bad", NONE, g.late(0, 0, -1));
    }

    private static void firstSeen() {
        LateGlass g = new LateGlass();
        for (int i = 0; i < 4; i++) {
            g.body();
        }
        g.stay(0, 2, 2, cell(4, 4));
        for (int what = 0; what < 3; what++) {
            due("P21 never", NONE, g.first(0, what));
        }
        g.glass(cell(4, 0), 4, 3, 0);
        g.stay(0, 5, 5, cell(4, 4));
        due("P21 not by himself", NONE, g.first(0, 0));
        due("he sees himself", 3, g.late(0, 0, 5));
        g.stay(3, 5, 5, cell(4, 2));
        g.stay(2, 5, 5, cell(4, 3));
        due("P21 the hour", 5, g.first(0, 0));
        due("P21 by whom", 2, g.first(0, 1));
        due("P21 how late", 0, g.first(0, 2));
        g.stay(2, 5, 5, NONE);
        g.stay(0, 5, 5, NONE);
        due("P21 the hour of him who sees", 5, g.first(0, 0));
        due("P21 by whom", 3, g.first(0, 1));
        due("P21 how late", 3, g.first(0, 2));
        g.stay(0, 0, 0, cell(2, 6));
        g.stay(1, 0, 0, cell(0, 6));
        due("P21 in hour 0", 0, g.first(1, 0));
        due("P21 by body 0", 0, g.first(1, 1));
        due("P21 by body 1", 1, g.first(0, 1));
        due("P21 bad", NONE, g.first(0, 3));
        due("P21 bad", NONE, g.first(0, -1));
        due("P21 bad", NONE, g.first(4, 0));
        due("P21 bad", NONE, g.first(-1, 0));
    }

    private static void litCells() {
        LateGlass g = new LateGlass();
        due("P22 all", 14, g.lit(cell(3, 3), 0, NONE));
        due("P22 itself is none", 0, g.lit(cell(3, 3), 0, cell(3, 3)));
        due("P22 one", 1, g.lit(cell(3, 3), 0, cell(3, 0)));
        due("P22 none", 0, g.lit(cell(3, 3), 0, cell(4, 4)));
        g.glass(cell(5, 3), 5, 1, 0);
        due("P22 any hour", 12 + 1, g.lit(cell(3, 3), 1, NONE));
        due("P22 itself over a glass", 1, g.lit(cell(3, 3), 1, cell(3, 3)));
        due("P22 not ahead of hour 0", 0, g.lit(cell(3, 3), 0, cell(3, 3)));
        g.wall(cell(3, 2), 1);
        due("P22 not walls", 0, g.lit(cell(3, 3), 0, cell(3, 2)));
        due("P22 bad", NONE, g.lit(-1, 0, 0));
        due("P22 bad", NONE, g.lit(64, 0, 0));
        due("P22 bad", NONE, g.lit(0, 24, 0));
        due("P22 bad", NONE, g.lit(0, -1, 0));
        due("P22 bad", NONE, g.lit(0, 0, 64));
        due("P22 bad", NONE, g.lit(0, 0, -2));
    }

    private static void unseenHours() {
        LateGlass g = new LateGlass();
        due("P23 nobody", 24, g.unseen(5));
        g.body();
        g.stay(0, 10, 12, 0);
        due("P23 three", 21, g.unseen(5));
        due("P23 where he is", 24, g.unseen(0));
        g.glass(7, 5, 4, 0);
        due("P23 late, too", 18, g.unseen(5));
        due("P23 over the glass himself", 21, g.unseen(0));
        due("P23 the glass itself", 21, g.unseen(7));
        g.wall(6, 1);
        due("P23 a wall", 24, g.unseen(6));
        due("P23 behind the wall", 24, g.unseen(7));
        g.body();
        g.stay(1, 11, 14, cell(5, 5));
        due("P23 each hour once", 19, g.unseen(5));
        due("P23 bad", NONE, g.unseen(-1));
        due("P23 bad", NONE, g.unseen(64));
    }

    private static void sightings() {
        LateGlass g = new LateGlass();
        for (int[] bad : new int[][] {{-1, 0, 0, 0}, {64, 0, 0, 0}, {0, -1, 0, 0}, {0, 4, 0, 0}, {0, 0, -1, 0},
            {0, 0, 24, 0}, {0, 0, 0, 2}, {0, 0, 0, -1}}) {
            due("P24 bad", -1, g.sighting(bad[0], bad[1], bad[2], bad[3]));
        }
        for (int i = 1; i <= 5; i++) {
            due("P24 seen", i, g.sighting(0, EAST, i, 1));
        }
        due("P24 a sixth", -5, g.sighting(0, EAST, 6, 1));
        for (int i = 6; i <= 10; i++) {
            due("P24 not seen", i, g.sighting(0, EAST, i, 0));
        }
        due("P24 an eleventh", -5, g.sighting(0, EAST, 11, 0));
        due("P24 -1 ahead of -5", -1, g.sighting(0, EAST, 24, 0));
        due("P25 none such", -2, g.drop(10));
        due("P25 none such", -2, g.drop(-1));
        due("P25 none such", -2, g.drop(MAX));
        due("P25 a seen one", 9, g.drop(0));
        due("P24 there is room", 10, g.sighting(0, EAST, 11, 1));
        due("P25 the last", 9, g.drop(9));
        due("P24 count", 9, g.count(3));
        // Those behind move up: seen in hour 2 is the first now.
        LateGlass h = new LateGlass();
        h.start(0);
        h.sighting(63, EAST, 0, 0);
        h.sighting(8, NORTH, 0, 0);
        due("P25 it stands", 0, h.fits());
        due("P25 goes", 1, h.drop(0));
        due("P25 the other one stands still", 0, h.fits());
        due("P25 goes", 0, h.drop(0));
        due("P25 none", 1, h.fits() > 0 ? 1 : 0);
    }

    private static void startCell() {
        LateGlass g = new LateGlass();
        g.wall(5, 1);
        due("P26 first", NONE, g.start(4));
        due("P26 then", 4, g.start(63));
        due("P26 wall", -3, g.start(5));
        due("P26 bad", -1, g.start(64));
        due("P26 bad", -1, g.start(-2));
        due("P26 stays", 63, g.start(NONE));
        due("P26 none", NONE, g.start(NONE));
    }

    /** Three cells in a row, 0, 1, 2, all else walls. */
    private static LateGlass three() {
        LateGlass g = new LateGlass();
        for (int cell = 3; cell < 64; cell++) {
            g.wall(cell, 1);
        }
        return g;
    }

    private static void corridor() {
        long[] ends = new long[25];
        long[] middle = new long[25];
        ends[1] = 1;
        middle[1] = 1;
        for (int n = 2; n <= 24; n++) {
            ends[n] = ends[n - 1] + middle[n - 1];
            middle[n] = 2 * ends[n - 1] + middle[n - 1];
        }
        LateGlass g = three();
        due("P27", 2 * ends[24] + middle[24], g.fits());
        due("P28 in an end", ends[24], g.could(0, 0));
        due("P28 later", ends[11] * ends[14], g.could(10, 2));
        due("P28 in the middle", middle[11] * middle[14], g.could(10, 1));
        due("P28 in a wall", 0, g.could(10, 3));
        due("P28 cells", 3, g.could(10, NONE));
        g.start(2);
        due("P27 from an end", ends[24], g.fits());
        due("P28 start", 1, g.could(0, NONE));
        due("P28 one further", 2, g.could(1, NONE));
        due("P28 all", 3, g.could(2, NONE));
        due("P32 start", 2, g.surely(0));
        due("P32 several", NONE, g.surely(1));
        due("P29 first", 2, g.path(0));
        due("P29 the lowest", 1, g.path(1));
        due("P29 the lowest", 0, g.path(2));
        due("P29 stays there", 0, g.path(23));
        for (int bad : new int[] {-1, 24, MIN, MAX}) {
            due("P28 bad", NONE, g.could(bad, 0));
            due("P28 bad", NONE, g.could(bad, NONE));
            due("P29 bad", NONE, g.path(bad));
            due("P32 bad", NONE, g.surely(bad));
        }
        due("P28 bad", NONE, g.could(0, 64));
        due("P28 bad", NONE, g.could(0, -2));
    }

    private static void fitting() {
        LateGlass g = three();
        g.start(0);
        // From cell 1 eastwards cell 2 alone is a point.
        g.sighting(1, EAST, 2, 1);
        due("P29 straight there", 1, g.path(1));
        due("P32 surely", 1, g.surely(1));
        due("P32 surely", 2, g.surely(2));
        due("P32 not so", NONE, g.surely(3));
        due("P28 cells", 1, g.could(1, NONE));
        due("P28 rows", 0, g.could(1, 0));
        due("P28 rows", g.fits(), g.could(1, 1));
        g.sighting(1, EAST, 3, 0);
        due("P32 back", 1, g.surely(3));
        g.sighting(2, WEST, 4, 0);
        due("P32 must be in 2", 2, g.surely(4));
        due("P29 first", 2, g.path(4));
        due("P29 first", 1, g.path(5));
        due("P29 first", 0, g.path(6));
        // Seen at one of some points: over a glass the look comes to cell 0 in hours 9 and 7.
        LateGlass h = new LateGlass();
        for (int cell = 8; cell < 64; cell++) {
            h.wall(cell, 1);
        }
        h.wall(2, 1);
        h.glass(7, 5, 0, 0);
        h.glass(1, 5, 2, 0);
        h.start(0);
        // 0 and 1 alone: from 0 eastwards in hour 9 points are 1 in hour 9 and 0 in hour 7.
        due("P17 two points", 2, h.look(0, EAST, 9, 1));
        long all = 1L << 23;
        due("P27 free", all, h.fits());
        h.sighting(0, EAST, 9, 1);
        due("P27 one at least", all - all / 4, h.fits());
        due("P28 both", all / 2, h.could(9, 1));
        due("P28 both", all / 2, h.could(7, 0));
        due("P28 the one if not the other", all / 4, h.could(9, 0));
        due("P29 first", 0, h.path(9));
        h.sighting(0, EAST, 9, 1);
        due("P27 twice the same", all - all / 4, h.fits());
        h.drop(1);
        h.sighting(0, EAST, 10, 1);
        due("P27 two of them", 9 * all / 16, h.fits());
        h.sighting(0, EAST, 9, 0);
        due("P27 seen and not", 0, h.fits());
        due("P29 none", NONE, h.path(0));
        due("P32 none", NONE, h.surely(0));
        due("P28 none", 0, h.could(0, NONE));
        due("P28 none", 0, h.could(0, 0));
        // A look is as the house stands now.
        h.drop(2);
        h.drop(1);
        h.turn(1, 1, 3);
        due("P27 hours 9 and 6", all / 2, h.could(6, 0));
        h.turn(1, 3, 1 << 9);
        due("P27 covered", all / 2, h.fits());
        due("P32 covered", 1, h.surely(9));
        // The thief is looked through, and stops no look.
        LateGlass e = new LateGlass();
        e.start(0);
        e.sighting(0, EAST, 1, 1);
        e.sighting(0, EAST, 2, 1);
        due("P27 seen far off, too", 1, e.surely(1));
        due("P27 seen far off, too", 2, e.could(2, NONE));
        e.start(63);
        due("P27 too far", 0, e.fits());
    }

    private static void core() {
        LateGlass g = three();
        due("P30 none there", 0, g.core());
        g.start(0);
        g.sighting(0, EAST, 0, 0);
        due("P30 fits", 0, g.core());
        g.sighting(1, EAST, 5, 1);
        g.sighting(1, EAST, 5, 0);
        g.sighting(1, EAST, 5, 0);
        due("P30 from the first on", 2 + 8, g.core());
        g.sighting(0, EAST, 5, 0);
        due("P30 the last ones stay", 2 + 16, g.core());
        g.sighting(1, EAST, 1, 1);
        due("P30 one alone, by the start", 32, g.core());
        due("P26 another start", 0, g.start(1));
        due("P30 the start stays", 2 + 16, g.core());
        LateGlass all = new LateGlass();
        for (int cell = 0; cell < 64; cell++) {
            all.wall(cell, 1);
        }
        due("P30 without any", NONE, all.core());
        all.sighting(0, EAST, 0, 0);
        due("P30 without any", NONE, all.core());
        due("P27 nowhere", 0, all.fits());
        due("P28 nowhere", 0, all.could(0, NONE));
        due("P29 nowhere", NONE, all.path(0));
        LateGlass far = new LateGlass();
        far.sighting(0, NORTH, 0, 1);
        due("P30 no point at all", 1, far.core());
    }

    private static void telling() {
        LateGlass g = three();
        g.start(0);
        long all = g.fits();
        due("P31 cell 2 in hour 5", g.could(5, 2), g.tells(1, EAST, 5));
        due("P31 cells 1, 2", g.could(5, 1) + g.could(5, 2), g.tells(0, EAST, 5));
        due("P31 no point", 0, g.tells(0, NORTH, 5));
        due("P31 hour 0", 0, g.tells(0, EAST, 0));
        due("P31 hour 0", all, g.tells(1, WEST, 0));
        g.sighting(1, EAST, 5, 1);
        due("P31 surely", g.fits(), g.tells(1, EAST, 5));
        due("P31 surely not", 0, g.tells(1, WEST, 5));
        due("P31 the sightings stay", 1, g.count(3));
        g.sighting(1, EAST, 5, 0);
        due("P31 none fits", 0, g.tells(1, EAST, 5));
        for (int[] bad : new int[][] {{-1, 0, 0}, {64, 0, 0}, {0, -1, 0}, {0, 4, 0}, {0, 0, -1}, {0, 0, 24}}) {
            due("P31 bad", NONE, g.tells(bad[0], bad[1], bad[2]));
        }
        // Of the empty house: all rows, counted by hours.
        LateGlass e = new LateGlass();
        long sum = 0;
        for (int cell = 0; cell < 64; cell++) {
            sum += e.could(12, cell);
        }
        due("P27 all rows are somewhere", sum, e.fits());
        due("P27 of the empty house", 195621366975421392L, e.fits());
    }

    private static void spotsAndWishes() {
        LateGlass g = new LateGlass();
        g.wall(1, 1);
        g.glass(2, 0, 0, 0);
        due("P33 wall", -3, g.spot(1, 0, 0));
        due("P33 glass", -3, g.spot(2, 0, 0));
        for (int[] bad : new int[][] {{-1, 0, 0}, {64, 0, 0}, {0, -1, 0}, {0, 6, 0}, {0, 0, -1}, {0, 0, 24}}) {
            due("P33 bad", -1, g.spot(bad[0], bad[1], bad[2]));
        }
        for (int i = 0; i < 8; i++) {
            due("P33 number", i, g.spot(10 + i, i % 6, 23));
        }
        due("P33 spot, ahead of -5", -3, g.spot(10, 0, 0));
        due("P33 no room", -5, g.spot(30, 0, 0));
        due("P33 count", 8, g.count(4));
        for (int[] bad : new int[][] {{-1, 0, 0, 0, 0, 0}, {64, 0, 0, 0, 0, 0}, {0, -1, 0, 0, 0, 0},
            {0, 4, 0, 0, 0, 0}, {0, 0, -1, 0, 0, 0}, {0, 0, 24, 0, 0, 0}, {0, 0, 0, -1, 0, 0},
            {0, 0, 0, 64, 0, 0}, {0, 0, 0, 0, -1, 0}, {0, 0, 0, 0, 24, 0}, {0, 0, 0, 0, 0, -1},
            {0, 0, 0, 0, 0, 2}}) {
            due("P34 bad", -1, g.wish(bad[0], bad[1], bad[2], bad[3], bad[4], bad[5]));
        }
        for (int i = 1; i <= 6; i++) {
            due("P34 how many", i, g.wish(0, EAST, 0, 1, 0, 0));
        }
        due("P34 no room", -5, g.wish(0, EAST, 0, 1, 0, 0));
        due("P34 -1 ahead of -5", -1, g.wish(0, EAST, 0, 1, 0, 2));
        due("P34 count", 6, g.count(5));
        due("P35 all", 0, g.lacks(255));
        due("P35 beyond", NONE, g.lacks(256));
        due("P35 below", NONE, g.lacks(-1));
        due("P35 below", NONE, g.lacks(MIN));
    }

    private static void hanging() {
        LateGlass g = new LateGlass();
        for (int what = 0; what < 3; what++) {
            due("P36 no wish", new int[] {0, 1, 0}[what], g.hang(what));
        }
        due("P36 bad", NONE, g.hang(3));
        due("P36 bad", NONE, g.hang(-1));
        due("P35 none", 0, g.lacks(0));
        due("P35 no spot", NONE, g.lacks(1));
        // From (0, 7) eastwards to see (4, 0): in (4, 7) hangs /, or two flat detours that do not help.
        g.spot(cell(2, 7), 1, 0);
        g.spot(cell(4, 7), 0, 2);
        g.wish(cell(0, 7), EAST, 9, cell(4, 0), 7, 1);
        due("P35 without", 1, g.lacks(0));
        due("P35 with both", 1, g.lacks(3));
        due("P35 with it", 0, g.lacks(2));
        due("P36 fewest", 1, g.hang(0));
        due("P36 ways", 1, g.hang(1));
        due("P36 which", 2, g.hang(2));
        due("P17 a spot is no glass", 7, g.look(cell(0, 7), EAST, 9, 1));
        // Another one sees as well: back from (6, 0) westwards over two glasses, later.
        g.wish(cell(0, 7), EAST, 9, cell(5, 7), 9, 0);
        due("P36 still", 2, g.hang(2));
        g.wish(cell(0, 7), EAST, 9, cell(7, 7), 9, 1);
        due("P35 which are not so", 4, g.lacks(2));
        due("P35 which are not so", 1 + 2, g.lacks(0));
        due("P36 none", NONE, g.hang(0));
        due("P36 none", 0, g.hang(1));
        due("P36 none", NONE, g.hang(2));
        // Two ways with one each: the lowest as bits.
        LateGlass h = new LateGlass();
        h.spot(cell(6, 0), 5, 0);
        h.spot(cell(5, 0), 4, 0);
        h.spot(cell(4, 0), 5, 0);
        h.wish(0, EAST, 3, 7, 3, 0);
        due("P36 each stops it", 1, h.hang(0));
        due("P36 three ways", 3, h.hang(1));
        due("P36 the lowest", 1, h.hang(2));
        h.wish(0, EAST, 3, 0, 3, 1);
        due("P36 two go back", 2, h.hang(1));
        h.wish(0, EAST, 3, 6, 3, 0);
        due("P36 one of them", 4, h.hang(2));
        due("P36 one way", 1, h.hang(1));
        due("P35 all hung", 0, h.lacks(7));
        due("P35 the back stops it", 2 , h.lacks(2));
    }

    private static void hungAndLaws() {
        LateGlass g = new LateGlass();
        g.spot(cell(7, 7), 0, 0);
        g.spot(cell(5, 3), 5, 9);
        g.wish(cell(1, 3), EAST, 23, cell(1, 3), 14, 1);
        due("P35 its own late", 0, g.lacks(2));
        force(g, "late glass");
        due("II glass 7", 1, g.lacks(2));
        g.wish(cell(1, 3), EAST, 23, cell(1, 3), 16, 1);
        due("II glass 7", 1, g.lacks(2));
        force(g, "covers if glass>6");
        due("II covered", 3, g.lacks(2));
        force(g, "dust 10");
        due("II dust", 3, g.lacks(2));
        force(g, "dust 9");
        g.least(100000);
        due("II dust of one", 2, g.lacks(2));
        g.force(NONE);
        g.least(1000000);
        due("IV dust 0", 2, g.lacks(2));
    }

    private static void walking() {
        LateGlass g = new LateGlass();
        g.body();
        due("P37 never", NONE, g.soonest(0, 0, 0));
        g.stay(0, 5, 6, cell(4, 4));
        due("P37 from where he is", 5, g.soonest(0, cell(4, 0), 5));
        due("P37 the first hour", 5, g.soonest(0, cell(4, 0), 0));
        due("P37 that one on", 6, g.soonest(0, cell(4, 0), 6));
        due("P37 too late", NONE, g.soonest(0, cell(4, 0), 7));
        due("P37 one step", 6, g.soonest(0, cell(3, 0), 5));
        due("P37 two steps", NONE, g.soonest(0, cell(2, 0), 5));
        due("P37 two steps", 6, g.soonest(0, cell(2, 2), 4));
        due("P37 not in his own cell", 6, g.soonest(0, cell(4, 4), 5));
        due("P38 first", cell(2, 2), g.way(0, cell(2, 2), 4, 4));
        due("P38 the lowest that gets there", cell(3, 2), g.way(0, cell(2, 2), 4, 5));
        due("P38 in the end", cell(4, 2), g.way(0, cell(2, 2), 4, 6));
        due("P38 behind", NONE, g.way(0, cell(2, 2), 4, 7));
        due("P38 ahead", NONE, g.way(0, cell(2, 2), 4, 3));
        due("P38 never", NONE, g.way(0, cell(2, 0), 5, 5));
        g.wall(cell(3, 2), 1);
        due("P38 round the wall", cell(2, 3), g.way(0, cell(2, 2), 4, 5));
        due("P38 round the wall", cell(2, 4), g.way(0, cell(2, 2), 4, 6));
        due("P37 in a wall", NONE, g.soonest(0, cell(3, 2), 0));
        due("P38 in a wall", NONE, g.way(0, cell(3, 2), 0, 0));
        for (int[] bad : new int[][] {{-1, 0, 0}, {1, 0, 0}, {0, -1, 0}, {0, 64, 0}, {0, 0, -1}, {0, 0, 24}}) {
            due("P37 bad", NONE, g.soonest(bad[0], bad[1], bad[2]));
            due("P38 bad", NONE, g.way(bad[0], bad[1], bad[2], bad[2]));
            due("P39 bad", NONE, g.sooner(bad[0], bad[1], bad[2], 0));
        }
        due("P38 bad", NONE, g.way(0, cell(4, 0), 0, -1));
        due("P38 bad", NONE, g.way(0, cell(4, 0), 0, 24));
        // Over a late glass he is seen when he is gone.
        g.glass(cell(4, 6), 2, 10, 0);
        due("P37 over a glass", 15, g.soonest(0, cell(4, 5), 7));
        // In cell 0 in hour 0 alone, and from an hour on.
        LateGlass h = new LateGlass();
        h.body();
        h.stay(0, 0, 0, 0);
        h.glass(cell(0, 4), 2, 5, 0);
        due("P37 long ago", 5, h.soonest(0, cell(0, 2), 1));
        h.stay(0, 0, 0, NONE);
        h.stay(0, 3, 23, 0);
        due("P37 from an hour on", 3, h.soonest(0, cell(0, 2), 1));
        due("P37 from an hour on", 4, h.soonest(0, cell(0, 2), 4));
        h.stay(0, 0, 2, 0);
        due("P37 in hour 0", 0, h.soonest(0, cell(0, 2), 0));
        // Another body in between hides him; the walker hides nobody.
        g.body();
        g.stay(1, 0, 23, cell(4, 2));
        due("P37 hidden: over the glass", 15, g.soonest(0, cell(4, 0), 5));
    }

    private static void soonerByTurning() {
        LateGlass g = new LateGlass();
        g.body();
        g.stay(0, 0, 0, cell(0, 3));
        g.glass(cell(6, 6), 0, 0, 0);
        g.glass(cell(3, 3), 0, 0, 0);
        due("P39 none without", NONE, g.soonest(0, cell(3, 7), 0));
        due("P39 the hour", 0, g.sooner(0, cell(3, 7), 0, 0));
        due("P39 the glass", 1, g.sooner(0, cell(3, 7), 0, 1));
        due("P39 the sort", 1, g.sooner(0, cell(3, 7), 0, 2));
        due("P39 the house stays", 0, g.of(1, 1));
        due("P39 what", NONE, g.sooner(0, cell(3, 7), 0, 3));
        due("P39 what", NONE, g.sooner(0, cell(3, 7), 0, -1));
        due("P39 not with the sort it has", NONE, g.sooner(0, cell(3, 7), 1, 0));
        g.turn(1, 0, 1);
        due("P39 at once: not sooner", NONE, g.sooner(0, cell(3, 7), 0, 0));
        // Without he walks to the west edge and looks north in hour 3.
        LateGlass h = new LateGlass();
        h.body();
        h.stay(0, 0, 23, cell(0, 3));
        h.glass(cell(3, 3), 0, 0, 0);
        due("P37 without", 3, h.soonest(0, cell(3, 7), 0));
        due("P39 the hour", 0, h.sooner(0, cell(3, 7), 0, 0));
        due("P39 the glass", 0, h.sooner(0, cell(3, 7), 0, 1));
        due("P39 the sort", 1, h.sooner(0, cell(3, 7), 0, 2));
        due("P37 as it was", 3, h.soonest(0, cell(3, 7), 0));
        due("P39 alike is not sooner", NONE, h.sooner(0, cell(0, 7), 0, 0));
        // Two glasses do alike: the lowest one.
        LateGlass k = new LateGlass();
        k.body();
        k.stay(0, 0, 0, cell(4, 4));
        k.glass(cell(4, 0), 0, 0, 0);
        k.glass(cell(0, 4), 0, 0, 0);
        due("P37 without", NONE, k.soonest(0, cell(0, 0), 0));
        due("P39 the hour", 0, k.sooner(0, cell(0, 0), 0, 0));
        due("P39 the lowest glass", 0, k.sooner(0, cell(0, 0), 0, 1));
        due("P39 the sort", 1, k.sooner(0, cell(0, 0), 0, 2));
        k.turn(0, 3, 1);
        due("P39 the other one", 1, k.sooner(0, cell(0, 0), 0, 1));
    }

    private static void wandering() {
        LateGlass g = new LateGlass();
        for (int hour = -1; hour <= 24; hour++) {
            due("P41 none", NONE, g.drawn(hour));
        }
        due("P40 nobody sees", 0, g.wander(5, cell(3, 3)));
        int[] cells = {cell(3, 3), cell(3, 2), cell(2, 2), cell(2, 2), cell(2, 2), cell(2, 2), cell(2, 3)};
        for (int hour = 0; hour < cells.length; hour++) {
            due("P41 in hour " + hour, cells[hour], g.drawn(hour));
        }
        due("P41 bad", NONE, g.drawn(-1));
        due("P41 bad", NONE, g.drawn(24));
        due("P40 bad", -1, g.wander(-1, 0));
        due("P40 bad", -1, g.wander(1000001, 0));
        due("P40 bad", -1, g.wander(0, 64));
        due("P40 bad", -1, g.wander(0, -1));
        g.wall(cell(3, 2), 1);
        due("P40 wall", -3, g.wander(5, cell(3, 2)));
        due("P41 refused: as it was", cell(2, 3), g.drawn(6));
        due("P40 round a wall", 0, g.wander(5, cell(3, 3)));
        due("P41 stays", cell(3, 3), g.drawn(1));
        due("P41 goes on", cell(2, 3), g.drawn(2));
        due("P40 at the edge", 0, g.wander(5, 0));
        due("P41 stays", 0, g.drawn(5));
        due("P41 goes south", 8, g.drawn(6));
        due("P40 the greatest", 0, g.wander(1000000, 63));
        // 0 and 8 alone; from 8 the body sees 0 in hours 4 and 5.
        LateGlass h = new LateGlass();
        for (int cell = 0; cell < 64; cell++) {
            h.wall(cell, cell == 0 || cell == 8 ? 0 : 1);
        }
        h.body();
        h.stay(0, 4, 5, 8);
        // 0, 1, 2 alone; from 2 in hour 6 the body sees 1, and over the glass 2 in hour 2.
        LateGlass k = three();
        k.body();
        k.stay(0, 6, 6, 2);
        k.glass(1, 3, 4, 0);
        for (int seed = 0; seed < 40; seed++) {
            int seen = h.wander(seed, 0);
            due("P40 seed " + seed, (h.drawn(4) == 0 ? 1 : 0) + (h.drawn(5) == 0 ? 1 : 0), seen);
            seen = k.wander(seed, 1);
            due("P40 late, seed " + seed, (k.drawn(6) == 1 ? 1 : 0) + (k.drawn(2) == 2 ? 1 : 0), seen);
        }
    }

    private static void images() {
        LateGlass g = new LateGlass();
        due("P43 not kept", -2, g.back(0));
        due("P43 not kept", -2, g.back(1));
        for (int bad : new int[] {-1, 2, MIN, MAX}) {
            due("P42 bad", -1, g.image(bad));
            due("P43 bad", -1, g.back(bad));
        }
        due("P42 empty", 0, g.image(1));
        g.wall(1, 1);
        g.glass(2, 3, 2, 3);
        g.turn(0, 3, 7);
        g.body();
        g.stay(0, 1, 2, 3);
        g.least(77);
        law(g, "late 7");
        g.force(0);
        g.sighting(3, EAST, 4, 1);
        g.start(9);
        g.spot(10, 1, 1);
        g.wish(0, EAST, 1, 4, 1, 1);
        due("P42", 0, g.image(0));
        int[] kept = kept(g);
        long fits = g.fits();
        feed(g, new byte[] {9, 9, 9, 9, 9});
        g.row();
        law(g, "nought");
        g.wander(5, 0);
        feed(g, new byte[] {1, 2, 3});
        int refused = g.count(9);
        due("P43 to the empty one", 0, g.back(1));
        for (int what = 0; what <= 6; what++) {
            due("P43 empty " + what, 0, g.count(what));
        }
        due("P43 no law in force", NONE, g.count(13));
        due("P43 least", 1000, g.least(5));
        due("P43 start", NONE, g.start(7));
        due("P43 the tape stays", 3, g.count(7));
        due("P43 fault stays", 0, g.fault());
        due("P43 faded stays", 2, g.faded());
        due("P43 the wandering stays", 8, g.drawn(6));
        due("P43 refusals stay", refused, g.count(9));
        g.end(0);
        law(g, "late 1");
        g.body();
        g.stay(0, 0, 23, 60);
        g.glass(61, 0, 0, 0);
        due("P43 to the other one", 0, g.back(0));
        int[] again = kept(g);
        for (int i = 0; i < kept.length; i++) {
            due("P43 kept " + i, kept[i], again[i]);
        }
        due("P43 fits", fits, g.fits());
        due("P43 again", 0, g.back(0));
        due("P43 images stay", 0, g.back(1));
        due("P43 images stay", 0, g.count(0));
        due("P42 over it", 0, g.image(0));
        due("P43 over it", 0, g.back(0));
        due("P43 over it", 0, g.count(2));
    }

    private static int[] kept(LateGlass g) {
        int least = g.least(0);
        g.least(least);
        int start = g.start(NONE);
        g.start(start);
        return new int[] {g.count(0), g.count(1), g.count(2), g.count(3), g.count(4), g.count(5), g.count(6),
            g.count(13), g.of(0, 0), g.of(0, 1), g.of(0, 2), g.of(0, 3), g.of(0, 4), g.where(0, 0), g.where(0, 1),
            g.where(0, 2), g.where(0, 3), least, start, g.lacks(0), g.lacks(1), g.look(0, EAST, 9, 1),
            g.look(7, WEST, 9, 2), g.look(7, WEST, 9, 3), g.look(11, NORTH, 2, 0), g.sees(11, 2), g.glass(2, 0, 0, 0)};
    }

    private static void counts() {
        LateGlass g = new LateGlass();
        for (int what : new int[] {-1, 14, MIN, MAX}) {
            due("P44 others", NONE, g.count(what));
        }
        g.wall(64, 1);
        g.wall(64, 1);
        g.turn(0, 0, 0);
        g.drop(0);
        g.drop(0);
        g.glass(1, 0, 0, 0);
        g.glass(1, 0, 0, 0);
        g.row();
        law(g, "");
        law(g, "x");
        law(g, "y");
        for (int i = 0; i < 10; i++) {
            g.body();
        }
        due("P44 -1", 2, g.count(8));
        due("P44 -2", 3, g.count(9));
        due("P44 -3", 1, g.count(10));
        due("P44 -5", 5, g.count(11));
        due("P44 -6", 4, g.count(12));
        g.look(-1, -1, -1, -1);
        g.of(9, 9);
        g.end(-1);
        g.lacks(-1);
        g.could(-1, -1);
        due("P44 NONE is no refusal", 2, g.count(8));
        due("P44 glasses", 1, g.count(0));
        due("P44 bodies", 5, g.count(1));
        law(g, "late 1");
        due("P44 laws", 1, g.count(2));
        g.force(0);
        due("P44 in force", 0, g.count(13));
        g.feed(0, 0, 0, 0, 0);
        due("P44 tape", 20, g.count(7));
    }

    private static void statuses() {
        LateGlass g = new LateGlass();
        due("P45 ahead of any", 0, g.status());
        g.wall(64, 0);
        due("P45 -1", -1, g.status());
        g.wall(1, 1);
        due("P45 0", 0, g.status());
        g.turn(0, 0, 0);
        due("P45 -2", -2, g.status());
        g.look(-1, 0, 0, 0);
        g.feed(0, 0, 0, 0, 0);
        g.end(0);
        g.count(99);
        g.of(0, 0);
        due("P45 others do not count", -2, g.status());
        int[] refused = {g.wall(64, 1), g.status(), g.glass(1, 0, 0, 0), g.status(), g.turn(0, 0, 0), g.status(),
            g.stay(0, 0, 0, 0), g.status(), g.least(-1), g.status(), g.row(), g.status(), g.law(), g.status(),
            g.force(0), g.status(), g.sighting(0, 0, 0, 2), g.status(), g.drop(0), g.status(), g.start(1), g.status(),
            g.spot(1, 0, 0), g.status(), g.wish(0, 0, 0, 0, 0, 2), g.status(), g.wander(0, 1), g.status(),
            g.image(2), g.status(), g.back(0), g.status()};
        int[] due = {-1, -3, -2, -2, -1, -6, -6, -2, -1, -2, -3, -3, -1, -3, -1, -2};
        for (int i = 0; i < due.length; i++) {
            due("P45 answer " + i, due[i], refused[2 * i]);
            due("P45 status " + i, due[i], refused[2 * i + 1]);
        }
        List<Consumer<LateGlass>> fine = List.of(x -> x.wall(2, 1), x -> x.glass(3, 0, 0, 0), x -> x.turn(0, 0, 1),
            x -> x.body(), x -> x.stay(0, 0, 0, 0), x -> x.least(9), x -> law(x, "late 1"), x -> x.force(0),
            x -> x.sighting(0, 0, 0, 1), x -> x.drop(0), x -> x.start(5), x -> x.spot(6, 0, 0),
            x -> x.wish(0, 0, 0, 0, 0, 1), x -> x.wander(0, 5), x -> x.image(0), x -> x.back(0));
        for (Consumer<LateGlass> call : fine) {
            g.drop(99);
            due("P45 refused", -2, g.status());
            call.accept(g);
            due("P45 fine " + fine.indexOf(call), 0, g.status());
        }
        feed(g, new byte[] {0, 0, 0, 5});
        due("P45 a row", 1, g.row());
        due("P45 a row", 0, g.status());
        for (int i = 0; i < 5; i++) {
            g.body();
        }
        due("P45 -5", -5, g.status());
    }
}
