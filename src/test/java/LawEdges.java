/** Terms II: laws. */
final class LawEdges {
    private static final int NONE = Edges.NONE;
    private static final int EAST = Edges.EAST;
    private static final int WEST = Edges.WEST;
    private static final int OWN_LATE = 9;

    private LawEdges() {
    }

    static void add(Edges e) {
        laws(e);
        tokens(e);
        grammar(e);
        limits(e);
        broken(e);
        asking(e);
        telling(e);
    }

    /** Glass 1 in (5, 3) faces west, 9 hours late, dust 2; from (1, 3) it is the fourth cell. */
    private static LateGlass mirror() {
        LateGlass g = new LateGlass();
        g.least(0);
        g.glass(63, 0, 0, 0);
        g.glass(Edges.cell(5, 3), 5, OWN_LATE, 2);
        return g;
    }

    private static int lateBy(String text) {
        LateGlass g = mirror();
        Edges.force(g, text);
        return 23 - g.look(Edges.cell(1, 3), EAST, 23, 2);
    }

    private static int dustBy(String text) {
        LateGlass g = mirror();
        Edges.force(g, text);
        return 10 - g.look(Edges.cell(1, 3), EAST, 23, 3) / 100000;
    }

    private static void told(Edges e, int late, String sum) {
        e.due("late " + sum, late, lateBy("late " + sum));
    }

    /** Whether a test is so; one that is broken is as little so as its contrary. */
    private static void so(Edges e, String test) {
        e.due("if " + test, 4, lateBy("late 4 if " + test));
        e.due("if not (" + test + ")", OWN_LATE, lateBy("late 4 if not (" + test + ")"));
    }

    private static void notSo(Edges e, String test) {
        e.due("if " + test, OWN_LATE, lateBy("late 4 if " + test));
        e.due("if not (" + test + ")", 4, lateBy("late 4 if not (" + test + ")"));
    }

    private static void isBroken(Edges e, String test) {
        e.due("if " + test, OWN_LATE, lateBy("late 4 if " + test));
        e.due("if not (" + test + ")", OWN_LATE, lateBy("late 4 if not (" + test + ")"));
    }

    private static void laws(Edges e) {
        e.edge("II", "LAWS are TEXTS, 6 at most", () -> {
            LateGlass g = new LateGlass();
            for (int i = 0; i < 6; i++) {
                e.due(i, Edges.law(g, "late " + i));
            }
            e.due("a seventh", -5, Edges.law(g, "late 6"));
            e.due("how many", 6, g.count(2));
        });
        e.edge("II", "on a TAPE of at most 400 bytes", () -> {
            LateGlass g = new LateGlass();
            e.due("a law of 400", 0, Edges.law(g, " ".repeat(394) + "late 1"));
            for (int i = 1; i <= 20; i++) {
                e.due(20 * i, g.feed(0, 0, 0, 0, 0));
            }
            e.due("more", NONE, g.feed(0, 0, 0, 0, 0));
            e.due("how many", 400, g.count(7));
        });
        e.edge("II", "one is in FORCE (NONE at first: no CLAUSE)", () -> {
            LateGlass g = mirror();
            e.due("at first", NONE, g.count(13));
            Edges.law(g, "late 3;dust 5;covers if x=4;clear");
            e.due("a law alone is not in force", NONE, g.count(13));
            e.due("its own late", 14, g.look(Edges.cell(1, 3), EAST, 23, 2));
            e.due("its own dust", 800000, g.look(Edges.cell(1, 3), EAST, 23, 3));
            g.force(0);
            e.due("in force", 20, g.look(Edges.cell(1, 3), EAST, 23, 2));
            g.force(NONE);
            e.due("none again", 14, g.look(Edges.cell(1, 3), EAST, 23, 2));
        });
    }

    private static void tokens(Edges e) {
        e.edge("II", "TOKENS: longest rows of letters a .. z", () -> {
            e.fault(NONE, "late x");
            e.fault(0, "latex");
            e.fault(0, "lat e 1");
            e.fault(5, "late xy");
            e.fault(0, "LATE 1");
            e.fault(1, " Late 1");
            e.fault(4, "lateE 1");
            e.fault(6, "clear iff x=1");
            e.fault(NONE, "clear if x=1or y=2and x=3");
            e.fault(12, "clear if x=1ory=2");
            e.fault(0, "a");
            e.fault(0, "z");
        });
        e.edge("II", "of digits", () -> {
            e.fault(NONE, "late 12");
            e.fault(7, "late 1 2");
            e.fault(NONE, "late1if 2=2");
            e.fault(NONE, "late 0");
            e.fault(NONE, "late 9");
            e.fault(5, "late /");
            e.fault(5, "late :");
        });
        e.edge("II", "single other bytes", () -> {
            e.fault(11, "clear if x<=1");
            e.fault(11, "clear if x<>1");
            e.fault(NONE, "late[[1]]");
            e.fault(7, "late 1;;late 2");
            for (int b = 0; b < 256; b++) {
                boolean isPart = b == 32 || b >= '0' && b <= '9';
                boolean isMore = isPart || b == ';' || b == '+' || b == '-' || b == '*' || b == '/';
                e.fault(isPart ? NONE : isMore ? 7 : 6, "late 1" + (char) b);
                e.fault(b == 32 ? 1 : 0, (char) b + "1");
                boolean isWhole = b == 'x' || b == 'y' || b >= '0' && b <= '9';
                e.fault(isWhole ? NONE : b == '[' || b == 32 ? 6 : 5, "late " + (char) b);
            }
        });
        e.edge("II", "any blanks (32) between", () -> {
            e.fault(NONE, "late1;dust[x]");
            e.fault(NONE, "   late   1   ;   dust   [   x   ]   ");
            e.fault(4, "late\t1");
            e.fault(4, "late\n1");
            e.fault(4, "late" + (char) 0 + "1");
            e.fault(4, "late" + (char) 160 + "1");
            e.fault(3, "   ");
            e.fault(3, "   ;");
        });
    }

    private static void grammar(Edges e) {
        e.edge("II", "CLAUSE {\";\" CLAUSE}", () -> {
            e.fault(NONE, "covers;clear");
            e.fault(0, "");
            e.fault(0, ";");
            e.fault(7, "covers;");
            e.fault(7, "covers;;clear");
            e.fault(7, "covers clear");
            e.fault(6, "covers,clear");
        });
        e.edge("II", "CLAUSE: HEAD [\"if\" TEST].", () -> {
            e.fault(NONE, "covers if x=1");
            e.fault(9, "covers if");
            e.fault(9, "covers if;clear");
            e.fault(0, "if x=1");
            e.fault(14, "covers if x=1 if y=1");
            e.fault(7, "covers when x=1");
        });
        e.edge("II", "HEAD: \"late\" SUM | \"dust\" SUM | \"covers\" | \"clear\".", () -> {
            e.fault(4, "late");
            e.fault(5, "late if x=1");
            e.fault(4, "dust");
            e.fault(4, "dust;late 1");
            e.fault(7, "covers 1");
            e.fault(6, "clear 1");
            e.fault(0, "not x=1");
            e.fault(0, "x");
            e.fault(0, "1");
        });
        e.edge("II", "TEST: BOTH {\"or\" BOTH}.", () -> {
            e.fault(14, "clear if x=1or");
            e.fault(9, "clear if or x=1");
            e.fault(16, "clear if x=1 or or x=2");
            so(e, "1=1 or 1=2");
            so(e, "1=2 or 1=1");
            notSo(e, "1=2 or 1=2");
            so(e, "1=2 or 1=2 or 1=1");
            so(e, "1=1 or 1=1 and 1=2");
            so(e, "1=1 or 1=2 or 1=2");
            so(e, "1=2 or 1=1 or 1=2");
        });
        e.edge("II", "BOTH: PLAIN {\"and\" PLAIN}.", () -> {
            e.fault(16, "clear if x=1 and");
            e.fault(9, "clear if and x=1");
            so(e, "1=1 and 1=1");
            notSo(e, "1=1 and 1=2");
            notSo(e, "1=2 and 1=1");
            notSo(e, "1=1 and 1=1 and 1=2");
            notSo(e, "1=2 and 1=1 and 1=1");
            notSo(e, "1=1 and 1=2 and 1=1");
            so(e, "1=2 and 1=2 or 1=1");
            notSo(e, "1=2 and (1=2 or 1=1)");
            notSo(e, "1=2 and 1=1 or 1=1 and 1=2");
        });
        e.edge("II", "PLAIN: \"not\" PLAIN | \"(\" TEST \")\" | SUM (\"<\" | \">\" | \"=\") SUM.", () -> {
            e.fault(12, "clear if not");
            e.fault(10, "clear if ()");
            e.fault(13, "clear if (x=1");
            e.fault(12, "clear if x=1)");
            e.fault(13, "clear if (x+1)=2");
            e.fault(10, "clear if x");
            e.fault(11, "clear if x=");
            e.fault(9, "clear if <1");
            e.fault(12, "clear if x=1=1");
            so(e, "not 1=2");
            notSo(e, "not not 1=2");
            notSo(e, "not 1=1 and 1=1");
            so(e, "not 1=1 or 1=1");
            so(e, "1<2");
            notSo(e, "2<2");
            so(e, "2>1");
            notSo(e, "2>2");
            so(e, "2=2");
            notSo(e, "0-1>0");
        });
        e.edge("II", "SUM: TERM {(\"+\" | \"-\") TERM}.", () -> {
            e.fault(7, "late 1+");
            e.fault(5, "late +1");
            e.fault(5, "late -1");
            e.fault(7, "late 1+-1");
            told(e, 5, "10-2-3");
            told(e, 11, "10-2+3");
            told(e, 7, "1+2*3");
            told(e, 4, "10-2*3");
        });
        e.edge("II", "TERM: PART {(\"*\" | \"/\") PART}.", () -> {
            e.fault(7, "late 1*");
            e.fault(5, "late *1");
            e.fault(7, "late 1//2");
            told(e, 2, "20/5/2");
            told(e, 8, "20/5*2");
            told(e, 3, "2*7/4");
            told(e, 7, "2*3+1");
            told(e, 7, "2*5-6/2");
        });
        e.edge("II", "\"[\" SUM \"]\"", () -> {
            e.fault(6, "late []");
            e.fault(7, "late [1");
            e.fault(6, "late 1]");
            e.fault(5, "late (1)");
            e.fault(7, "late [1)");
            e.fault(11, "clear if [x=1]");
            told(e, 12, "[1+2]*4");
            told(e, 5, "10-[2+3]");
            told(e, 10, "20/[5-3]");
        });
        e.edge("II", "\"glass\" | \"x\" | \"y\" | \"hour\" | \"way\" | \"body\" | \"steps\" | \"bright\".", () -> {
            for (String word : "glass x y hour way body steps bright".split(" ")) {
                e.fault(NONE, "late " + word);
                e.fault(5, "late " + word + "z");
                e.fault(5, "late q" + word);
            }
            e.fault(5, "late late");
            e.fault(5, "late step");
            e.fault(5, "late z");
        });
    }

    private static void limits(Edges e) {
        String eleven = "late 1;".repeat(11);
        e.edge("II", "12 at most (FAULT at the 13th's first TOKEN)", () -> {
            e.fault(NONE, eleven + "clear");
            e.fault(84, eleven + "clear ;late 1");
            e.fault(86, eleven + "clear ;  late 1");
            e.fault(84, eleven + "clear ;?");
            e.fault(84, eleven + "clear ;");
            e.fault(84, eleven + "clear ;late 1;late 2");
            e.fault(83, eleven + "clear ?");
        });
        e.edge("II", "PART: NUMBER (to 1,000)", () -> {
            e.fault(NONE, "late 1000");
            e.fault(5, "late 1001");
            e.fault(5, "late 9999");
            e.fault(NONE, "late 0000001000");
            e.fault(5, "late 0000001001");
            e.fault(5, "late 4294967297");
            e.fault(5, "late 18446744073709551617");
            e.fault(5, "late 1" + "0".repeat(394));
            e.fault(NONE, "late " + "0".repeat(394) + "7");
            told(e, 7, "0".repeat(390) + "7");
            told(e, 1, "1000/1000");
        });
        e.edge("II", "50 PARTS that are NUMBERS and words (FAULT at the 51st)", () -> {
            String fortyNine = "late 1" + "+x+1".repeat(24);
            e.fault(NONE, fortyNine + "+x");
            e.fault(NONE, fortyNine + "+7");
            e.fault(105, fortyNine + "+x+x");
            e.fault(105, fortyNine + "+x+7");
            e.fault(108, fortyNine + "+x if 1=1");
            e.fault(110, fortyNine + "+x;late 1");
            e.fault(108, fortyNine + "+x+[[[7]]]");
            e.fault(NONE, fortyNine + "+[[[[[[[[x]]]]]]]]");
            e.fault(NONE, "covers;clear;" + fortyNine + "+x;covers");
            e.fault(NONE, "covers if not not 1=1;" + "late 1" + "+x+1".repeat(23) + "+x");
            LateGlass g = new LateGlass();
            for (int i = 0; i < 6; i++) {
                e.due("so many in each law", i, Edges.law(g, fortyNine + "+x"));
            }
        });
        e.edge("II", "50 PARTS that are NUMBERS and words (FAULT at the 51st)", () -> {
            e.due("50 of ones", 23, lateBy("late 1" + "+1".repeat(49)));
            e.due("49 of ones, less 30", 19, lateBy("late 1" + "+1".repeat(48) + "-30"));
            so(e, "1=2 or ".repeat(23) + "1=1");
            notSo(e, "1=2 or ".repeat(23) + "1=2");
            so(e, "1=1 and ".repeat(23) + "1=1");
            notSo(e, "1=1 and ".repeat(23) + "1=2");
            told(e, 5, "1+[1*".repeat(4) + "1" + "]".repeat(4));
        });
        e.edge("II", "8 brackets of both kinds within one another (FAULT at the 9th) at most", () -> {
            e.fault(NONE, "late [[[[[[[[1]]]]]]]]");
            e.fault(13, "late [[[[[[[[[1]]]]]]]]]");
            e.fault(NONE, "clear if ((((((((1=1))))))))");
            e.fault(17, "clear if (((((((((1=1)))))))))");
            e.fault(NONE, "clear if (((([[[[1]]]]=1))))");
            e.fault(17, "clear if (((([[[[[1]]]]]=1))))");
            e.fault(17, "clear if (((((((([1]=1))))))))");
            e.fault(19, "clear if (((((((1=[[1]])))))))");
            e.fault(NONE, "clear if (((((((1=[1])))))))");
            e.fault(NONE, "late [1]+[1]+[1]+[1]+[1]+[1]+[1]+[1]+[1]+[[1]]");
            e.fault(NONE, "clear if (1=1) and (1=1) and (1=1) and (1=1) and (1=1) and (1=1) and (1=1) and ((1=1) or (1=1))");
        });
        e.edge("II", "FAULT: the first TOKEN that can't go on there", () -> {
            e.fault(8, "late 1  late");
            e.fault(8, "late 1; ?;?");
            e.fault(13, "clear if x=1 ]");
        });
        e.edge("II", "(the end's: the TEXT's length)", () -> {
            e.fault(4, "late");
            e.fault(8, "late    ");
            e.fault(0, "");
            e.fault(400, " ".repeat(396) + "late");
            e.fault(400, "late" + " ".repeat(396));
            e.fault(20, "clear if x=1 and y= ");
        });
        e.edge("II", "on a TAPE of at most 400 bytes", () -> {
            e.fault(0, ";".repeat(400));
            e.fault(397, " ".repeat(397) + "lat");
            e.fault(399, " ".repeat(399) + "l");
            e.fault(396, "clear if 1=1" + " ".repeat(384) + "late");
            e.fault(400, "clear if" + " not".repeat(98));
            LateGlass g = mirror();
            for (int i = 0; i < 20; i++) {
                Edges.law(g, "late 1" + "+1-1".repeat(24) + " " + " ".repeat(200) + "?");
            }
            Edges.force(g, "late 1" + "+1-1".repeat(24) + "+1");
            e.due("behind many texts that are no laws", 21, g.look(Edges.cell(1, 3), EAST, 23, 2));
        });
    }

    private static void broken(Edges e) {
        String billion = "1000*1000*1000";
        e.edge("II", "Beyond 1,000,000,000 either way", () -> {
            told(e, 10, billion + "/[1000*1000*100]");
            told(e, 2, "[0-" + billion + "]/[1000*1000*100]+12");
            told(e, OWN_LATE, "[" + billion + "+1]/[1000*1000*100]");
            told(e, OWN_LATE, "[0-" + billion + "-1]/[1000*1000*100]+12");
            told(e, OWN_LATE, billion + "+1-" + billion);
            told(e, 1, billion + "-" + billion + "+1");
            told(e, OWN_LATE, "[1000*1000+1]*1000/[1000*1000*1000]");
            told(e, OWN_LATE, "1000*1000*1000*1000*1000*1000*1000*1000*1000*1000*0");
            so(e, billion + ">0");
            so(e, "0-" + billion + "<0");
            isBroken(e, billion + "+1>0");
            isBroken(e, "0-" + billion + "-1<0");
            isBroken(e, "1<" + billion + "+1");
        });
        e.edge("II", "or divided by 0", () -> {
            told(e, OWN_LATE, "1/0");
            told(e, OWN_LATE, "0/0");
            told(e, OWN_LATE, "1/[x-5]");
            told(e, 0, "0/1");
            told(e, OWN_LATE, "0*[1/0]");
            isBroken(e, "1/0=1");
            isBroken(e, "1=1/0");
        });
        e.edge("II", "a SUM, a TEST is BROKEN", () -> {
            isBroken(e, "not 1/0=1");
            isBroken(e, "(1/0=1)");
            isBroken(e, "1/0=1 or 1=1");
            isBroken(e, "1/0=1 and 1=2");
            isBroken(e, "1=1 and 1/0=1");
            isBroken(e, "1=2 or 1/0=1");
        });
        e.edge("II", "/ is cut towards 0", () -> {
            told(e, 3, "7/2");
            told(e, 2, "[0-7]/2+5");
            told(e, 2, "7/[0-2]+5");
            told(e, 3, "[0-7]/[0-2]");
            told(e, 5, "[0-1]/2+5");
            told(e, 5, "1/1000+5");
        });
        e.edge("II", "A CLAUSE HOLDS, if its \"if\" (if it has one) is so, and neither that nor its SUM is BROKEN", () -> {
            e.due("without if", 4, lateBy("late 4"));
            e.due("if it is so", 4, lateBy("late 4 if 1=1"));
            e.due("if it is not so", OWN_LATE, lateBy("late 4 if 1=2"));
            e.due("if it is broken", OWN_LATE, lateBy("late 4 if 1/0=1"));
            e.due("a broken sum", OWN_LATE, lateBy("late 4/0 if 1=1"));
            e.due("a broken sum without if", OWN_LATE, lateBy("late 4/0"));
            e.due("dust of a broken sum", 2, dustBy("dust 4/0"));
            e.due("covers if broken", 9, lateBy("covers if 1/0=1"));
            e.due("covers if not broken", 9, lateBy("covers if not 1/0=1"));
        });
        e.edge("II", "(\"or\", \"and\" ask what stands behind only if it can still matter)", () -> {
            so(e, "1=1 or 1/0=1");
            notSo(e, "1=2 and 1/0=1");
            so(e, "1=2 or 1=1 or 1/0=1");
            notSo(e, "1=1 and 1=2 and 1/0=1");
            so(e, "1=2 and 1/0=1 or 1=1");
            so(e, "1=1 or 1/0=1 and 1/0=1");
            so(e, "(1=1 or 1/0=1) and 1=1");
            notSo(e, "(1=2 and 1/0=1) or 1=2");
            isBroken(e, "(1=1 or 1/0=1) and 1/0=1");
            so(e, "1=1 or 1/0=1 or 1/0=1");
            notSo(e, "1=2 and 1/0=1 and 1/0=1");
        });
    }

    private static void asking(Edges e) {
        e.edge("II", "Told by a HEAD is what the last CLAUSE with it that HOLDS tells.", () -> {
            e.due("the last", 4, lateBy("late 3;late 4"));
            e.due("the last that holds", 3, lateBy("late 3;late 4 if 1=2"));
            e.due("one that is broken does not hold", 3, lateBy("late 3;late 4/0"));
            e.due("of that head", 3, lateBy("late 3;dust 4"));
            e.due("dust", 4, dustBy("dust 3;dust 4;late 5"));
            e.due("twelve", 11, lateBy("late 0;late 1;late 2;late 3;late 4;late 5;late 6;late 7;late 8;late 9;late 10;late 11"));
            e.due("the first of twelve", 7, lateBy("late 7" + ";late 1 if 1=2".repeat(11)));
            e.due("covers, an earlier one", 0, lateBy("covers;covers if 1=2"));
        });
        e.edge("II", "It is asked of a CELL (x, y), the HOUR there, the WAY that the look comes", () -> {
            e.due("x", 5, lateBy("late x"));
            e.due("y", 3, lateBy("late y"));
            e.due("hour", 23, lateBy("late hour"));
            e.due("way", 1, lateBy("late way"));
            LateGlass g = new LateGlass();
            g.glass(Edges.cell(7, 0), 1, 5, 0);
            g.glass(Edges.cell(7, 7), 0, 0, 0);
            Edges.force(g, "covers if x=7 and y=7 and hour=18 and way=2");
            e.due("behind a late glass", 14, g.look(0, EAST, 23, 1));
            e.due("in another hour", 21, g.look(0, EAST, 22, 1));
        });
        e.edge("II", "how many CELLS it came through (steps)", () -> {
            e.due("the fourth", 4, lateBy("late steps"));
            LateGlass g = new LateGlass();
            g.glass(1, 5, 0, 0);
            Edges.force(g, "covers if not steps=1");
            e.due("the first", 1, g.look(0, EAST, 5, 4));
            Edges.force(g, "covers if steps=1");
            e.due("the first", 0, g.look(0, EAST, 5, 4));
        });
        e.edge("II", "how bright it is in thousandths, cut", () -> {
            e.due("at first", 10, lateBy("late bright/100"));
            e.due("at first", 4, lateBy("late 4 if bright=1000"));
            LateGlass g = new LateGlass();
            g.least(0);
            g.glass(7, 5, 0, 1);
            g.glass(0, 3, 0, 1);
            // Between two glasses that face one another: ten times nine tenths are 348,677.
            Edges.force(g, "covers if bright=348");
            e.due("cut", 348677, g.look(3, EAST, 9, 3));
            e.due("cut", 74, g.look(3, EAST, 9, 1));
            Edges.force(g, "dust 9;covers if bright=0");
            e.due("below a thousandth", 100, g.look(3, EAST, 9, 3));
            e.due("below a thousandth", 32, g.look(3, EAST, 9, 1));
        });
        e.edge("II", "glass or body: which (the other one -1)", () -> {
            e.due("glass", 1, lateBy("late glass"));
            e.due("no body", 4, lateBy("late 4 if body=0-1"));
            LateGlass g = new LateGlass();
            g.body();
            g.body();
            g.stay(1, 0, 23, 3);
            Edges.force(g, "clear if body=1 and glass=0-1");
            e.due("a body", NONE, g.look(0, EAST, 0, 0));
            Edges.force(g, "clear if body=0 or glass=1");
            e.due("another body", 1, g.look(0, EAST, 0, 0));
            g.stay(0, 0, 23, 3);
            e.due("of some", 1, g.look(0, EAST, 0, 0));
        });
    }

    private static void telling(Edges e) {
        e.edge("II", "Of a GLASS: how LATE it is is what \"late\" tells, 0 .. 23 (else the nearest), its LATE without", () -> {
            told(e, 0, "0");
            told(e, 23, "23");
            told(e, 23, "24");
            told(e, 23, "1000*1000*1000");
            told(e, 0, "0-1");
            told(e, 0, "0-1000*1000*1000");
            e.due("without", OWN_LATE, lateBy("dust 1"));
            e.due("without", OWN_LATE, lateBy("late 3 if 1=2"));
            LateGlass g = mirror();
            Edges.force(g, "late 24");
            e.due("23 hours ahead of hour 22 is below 0", 0, g.look(Edges.cell(1, 3), EAST, 22, 4));
            e.due("23 hours ahead of hour 23 is not", 2, g.look(Edges.cell(1, 3), EAST, 23, 4));
        });
        e.edge("II", "its DUST likewise 0 .. 10", () -> {
            e.due(0, dustBy("dust 0"));
            e.due(10, dustBy("dust 10"));
            e.due(10, dustBy("dust 11"));
            e.due(10, dustBy("dust 1000*1000*1000"));
            e.due(0, dustBy("dust 0-1"));
            e.due(0, dustBy("dust 0-1000*1000*1000"));
            e.due("without", 2, dustBy("late 1"));
            e.due("without", 2, dustBy("dust 3 if 1=2"));
        });
        e.edge("II", "it is COVERED, if it is told to be in that HOUR, or \"covers\" HOLDS", () -> {
            int from = Edges.cell(1, 3);
            LateGlass g = mirror();
            g.turn(1, 3, 1 << 23 | 1);
            e.due("told in hour 23", 0, g.look(from, EAST, 23, 4));
            e.due("not in hour 22", 2, g.look(from, EAST, 22, 4));
            g.turn(1, 1, 0);
            e.due("told in hour 0", 0, g.look(from, EAST, 0, 4));
            e.due("not in hour 1", 2, g.look(from, EAST, 1, 4));
            Edges.force(g, "covers if hour=1");
            e.due("holds", 0, g.look(from, EAST, 1, 4));
            e.due("told still", 0, g.look(from, EAST, 23, 4));
            e.due("neither", 2, g.look(from, EAST, 2, 4));
            e.due("what is told stays", 1 << 23 | 1, g.of(1, 4));
        });
        e.edge("II", "A BODY is CLEAR, if \"clear\" HOLDS: one looks through it.", () -> {
            LateGlass g = new LateGlass();
            g.body();
            g.body();
            g.stay(0, 0, 23, 2);
            g.stay(1, 0, 23, 5);
            Edges.force(g, "clear if body=0");
            e.due("through it", 1, g.look(0, EAST, 3, 0));
            e.due("from the other side", 1, g.look(7, WEST, 3, 0));
            Edges.force(g, "clear");
            e.due("through all", NONE, g.look(0, EAST, 3, 0));
            e.due("through all", 7, g.look(0, EAST, 3, 1));
            Edges.force(g, "clear if 1/0=1");
            e.due("broken", 0, g.look(0, EAST, 3, 0));
            Edges.force(g, "covers;dust 3;late 4");
            e.due("other heads", 0, g.look(0, EAST, 3, 0));
        });
    }
}
