/** Promises 6 to 25 and what they lean on, edge by edge: TILES, VARS, DOORS, LIFT, rounds, CELLS, the YARD, CARS. */
public final class RoofEdgesTest {
    private static final int LOW = Integer.MIN_VALUE;
    private static final int HIGH = Integer.MAX_VALUE;
    /** 2147483647, told with INTs of four digits. */
    private static final String MOST = "(9999*9999*21+4790*9999+8416)";
    /** All go that have a LIFT of 1 or more by the law that follows, and nothing else holds or presses. */
    private static final String BARE = "weigh 0; lap 0; press = 0; ";
    /** One TILE a round, TILE n when n are GONE. */
    private static final String ONE_BY_ONE = "roof 6 6 0; " + BARE + "suck = 1 - (holes - row * 6 - col) * (holes - row * 6 - col);";

    private final Check check = new Check("RoofEdgesTest");

    private void due(String call, long got, long want) {
        check.due(call, got, want);
    }

    private void due(String call, boolean got, boolean want) {
        check.due(call, got, want);
    }

    private static GaleRoof gone(GaleRoof x, int... tiles) {
        for (int t : tiles) {
            x.there(t, false);
        }
        return x;
    }

    private static GaleRoof allGone(GaleRoof x) {
        for (int t = 0; t < x.count(0) * x.count(1); t++) {
            x.there(t, false);
        }
        return x;
    }

    private static int suck(String law) {
        return Check.told("suck = " + law + ";").lift(0, 0, 0, 0);
    }

    private static boolean holds(String cond) {
        return Check.told("nailed if " + cond + ";").tile(0, 1) == 1;
    }

    // ---- II: numbers and places of TILES, promise 6

    private void tilesOfEachSize() {
        for (int rows = 2; rows <= 6; rows++) {
            for (int cols = 2; cols <= 6; cols++) {
                GaleRoof x = Check.told("roof " + rows + " " + cols + " 0; suck = row * 100 + col * 10 + third;");
                int last = rows * cols - 1;
                due("TILES", x.count(4), last + 1);
                due("the last TILE", x.tile(last, 0), 1);
                due("no TILE behind it", x.tile(last + 1, 0), -1);
                due("no edge behind it", x.tile(last + 1, 5), -1);
                due("no LIFT behind it", x.lift(last + 1, 0, 0, 0), LOW);
                due("set behind it", x.set(last + 1, 1, 1), false);
                due("there behind it", x.there(last + 1, false), false);
                due("goes behind it", x.goes(last + 1, 0, true), -1);
                due("round behind it", x.round(last + 1, 0, 0), -1);
                due("lands behind it", x.lands(last + 1, 0, 0), -1);
                for (int t = 0; t <= last; t++) {
                    int row = t / cols;
                    int col = t % cols;
                    boolean border = row == 0 || row == rows - 1;
                    boolean side = col == 0 || col == cols - 1;
                    due("edge of " + t, x.tile(t, 5), border && side ? 2 : border || side ? 1 : 0);
                    due("row, col, third of " + t, x.lift(t, 0, 0, 0), row * 100 + col * 10 + t % 3);
                }
            }
        }
    }

    private void rulesSeePlacesAlone() {
        String[] others = {"bare", "holes", "inlet", "outlet", "gust", "way", "age", "grown", "nails"};
        for (String other : others) {
            GaleRoof x = new GaleRoof();
            // What a GUST left behind must not be seen by the RULES of the next text.
            gone(x, 0, 1).lift(5, 99, 3, 3);
            x.warned(99, 3, 9);
            x.blow(99, 3);
            Check.read(x, "years 9; moss 8; door a 0 9 open; door b 2 9 open; nailed if 1 == 1; clipped if " + other + " != 0;");
            for (int t = 0; t < 16; t++) {
                due(other + " is 0 for a RULE", x.tile(t, 2), 0);
            }
        }
        GaleRoof y = Check.told("nailed if row == 3 and col == 3; clipped if third == 2 and edge == 0;");
        int[] clipped = {5};
        for (int t = 0; t < 16; t++) {
            due("NAILED " + t, y.tile(t, 1), t == 15 ? 1 : 0);
            due("CLIPPED " + t, y.tile(t, 2), t == clipped[0] ? 1 : 0);
        }
        GaleRoof none = Check.told("nailed if 1 == 0; clipped if edge == 3;");
        for (int t = 0; t < 16; t++) {
            due("none", none.tile(t, 1) + none.tile(t, 2), 0);
        }
    }

    // ---- numbers that wrap, / towards 0, a division by 0

    private void numbers() {
        due("the most", suck(MOST), HIGH);
        due("one more wraps", suck(MOST + " + 1"), LOW);
        due("the least", suck("0 - " + MOST + " - 1"), LOW);
        due("one less wraps", suck("0 - " + MOST + " - 2"), HIGH);
        due("0 less the least is the least", suck("0 - (" + MOST + " + 1)"), LOW);
        due("the least by -1 wraps", suck("(" + MOST + " + 1) / (0 - 1)"), LOW);
        due("the least by -1 times 1", suck("(" + MOST + " + 1) / (0 - 1) * 1"), LOW);
        due("the least times -1", suck("(" + MOST + " + 1) * (0 - 1)"), LOW);
        due("* wraps", suck("9999 * 9999 * 9999"), (int) (999700029999L));
        due("* wraps to 0", suck("4096 * 4096 * 256"), 0);
        due("* wraps to the least", suck("4096 * 4096 * 128"), LOW);
        due("wrapped in a LIT", holds(MOST + " + 1 < 0"), true);
        due("not wrapped in a LIT", holds(MOST + " < 0"), false);
        due("0 - 1 <= most", holds("0 - 1 <= " + MOST), true);
        due("the least < the most", holds(MOST + " + 1 < " + MOST), true);
        due("the most < the least", holds(MOST + " < " + MOST + " + 1"), false);
        int[][] parts = {{7, 2, 3}, {-7, 2, -3}, {7, -2, -3}, {-7, -2, 3}, {1, 2, 0}, {-1, 2, 0}, {9998, 9999, 0}, {-9998, 9999, 0}, {9999, 9999, 1}, {9999, -9999, -1}, {0, 5, 0}, {0, -5, 0}};
        for (int[] p : parts) {
            String over = (p[0] < 0 ? "(0 - " + -p[0] + ")" : "" + p[0]) + " / " + (p[1] < 0 ? "(0 - " + -p[1] + ")" : "" + p[1]);
            due(over, suck(over), p[2]);
        }
        due("* ahead of +", suck("2 + 3 * 4"), 14);
        due("/ ahead of -", suck("20 - 6 / 2"), 17);
        due("brackets ahead", suck("(2 + 3) * 4"), 20);
        due("- from the left", suck("20 - 5 - 3"), 12);
        due("- and + from the left", suck("20 - 5 + 3"), 18);
        due("/ from the left", suck("64 / 4 / 2"), 8);
        due("/ and * from the left", suck("7 / 2 * 2"), 6);
        due("* and / from the left", suck("2 * 7 / 2"), 7);
    }

    private void divisionsByZero() {
        String[] zeros = {"7 + 1 / 0", "7 + 0 / 0", "1 / 0 + 7", "7 + 0 * (1 / 0)", "7 + 1 / (1 / 2)", "7 + 6 / (2 + 1 / 0)", "7 - (3 + (2 + (1 / (row - row))))", "7 + 1 / gust", "7 + 1 / holes * 0", "5 / 0 / 5", "7 + 0 / (0 / 1)"};
        for (String law : zeros) {
            due("0 as a whole: " + law, suck(law), 0);
        }
        due("0 by 5 is no division by 0", suck("7 + 0 / 5"), 7);
        due("0 by -1 is none", suck("7 + 0 / (0 - 1)"), 7);
        GaleRoof x = Check.told("roof 3 3 0; suck = 7 + 12 / (row - 1); press = 7 + 12 / (col - 1); holds = 7 + 12 / (row + col - 2); far = 7 + 12 / (third - 1);");
        for (int t = 0; t < 9; t++) {
            int row = t / 3;
            int col = t % 3;
            due("suck by TILE", x.lift(t, 0, 0, 0), row == 1 ? 0 : row == 0 ? -5 : 19);
            due("press by TILE", x.lift(t, 0, 0, 1), col == 1 ? 0 : col == 0 ? -5 : 19);
            int lap = row == 2 ? 0 : 5;
            due("holds by TILE", x.lift(t, 0, 0, 2), 20 + lap + (row + col == 2 ? 0 : 7 + 12 / (row + col - 2)));
        }
        GaleRoof y = Check.told(BARE + "suck = 1; far = 7 + 8 / (col - 1);");
        due("far by 0", y.lands(1, 0, 0), 2100);
        due("far not by 0", y.lands(2, 0, 0), 2215);
        due("far below 0", y.lands(0, 0, 0), 2000);
        GaleRoof z = Check.told("suck = 5 + 100 / gust;");
        due("by GUST 0", z.lift(0, 0, 0, 0), 0);
        due("by GUST 1", z.lift(0, 1, 0, 0), 105);
        String[] lits = {"1 / 0 == 0", "0 == 1 / 0", "1 / 0 == 1 / 0", "1 / 0 != 5", "5 != 1 / 0", "1 / 0 < 5", "0 - 5 < 1 / 0", "1 / 0 <= 5", "0 <= 1 / 0", "0 * (1 / 0) == 0", "0 - 1 < 0 / 0"};
        for (String lit : lits) {
            due("holds not: " + lit, holds(lit), false);
            due("its not holds: " + lit, holds("not " + lit), true);
            due("not not: " + lit, holds("not not " + lit), false);
            due("not not not: " + lit, holds("not not not " + lit), true);
            due("or another", holds(lit + " or 1 == 1"), true);
            due("another or", holds("1 == 1 or " + lit), true);
            due("and another", holds(lit + " and 1 == 1"), false);
            due("another and", holds("1 == 1 and " + lit), false);
            due("and its not", holds("1 == 1 and not " + lit), true);
            due("the next LIT is another", holds("not " + lit + " and 3 < 4"), true);
            due("the next RULE is another", Check.told("nailed if " + lit + "; nailed if 1 == 1;").tile(0, 1), 1);
        }
    }

    private void condsJoin() {
        String t = "0 == 0";
        String f = "0 == 1";
        due("T or F and F", holds(t + " or " + f + " and " + f), true);
        due("F and F or T", holds(f + " and " + f + " or " + t), true);
        due("T and F or F", holds(t + " and " + f + " or " + f), false);
        due("F or T and T", holds(f + " or " + t + " and " + t), true);
        due("T and T and F", holds(t + " and " + t + " and " + f), false);
        due("F or F or T", holds(f + " or " + f + " or " + t), true);
        due("not F and F", holds("not " + f + " and " + f), false);
        due("not T or T", holds("not " + t + " or " + t), true);
        int[][] pairs = {{3, 4}, {4, 4}, {5, 4}, {0, 1}, {1, 0}, {0, 0}};
        for (int[] p : pairs) {
            String a = p[0] + " ";
            String b = " " + p[1];
            joins(a + "==" + b, p[0] == p[1]);
            joins(a + "!=" + b, p[0] != p[1]);
            joins(a + "<" + b, p[0] < p[1]);
            joins(a + "<=" + b, p[0] <= p[1]);
        }
    }

    /** A LIT by itself, behind 'not', and with each other that holds or does not. */
    private void joins(String lit, boolean is) {
        due(lit, holds(lit), is);
        due("not " + lit, holds("not " + lit), !is);
        due("not not " + lit, holds("not not " + lit), is);
        String[] others = {"1 == 1", "1 != 2", "1 < 2", "1 <= 1", "1 == 2", "1 != 1", "2 < 1", "2 <= 1"};
        for (int i = 0; i < others.length; i++) {
            boolean other = i < 4;
            due(lit + " and " + others[i], holds(lit + " and " + others[i]), is && other);
            due(others[i] + " and " + lit, holds(others[i] + " and " + lit), is && other);
            due(lit + " or " + others[i], holds(lit + " or " + others[i]), is || other);
            due(others[i] + " or " + lit, holds(others[i] + " or " + lit), is || other);
            due("not " + lit + " and " + others[i], holds("not " + lit + " and " + others[i]), !is && other);
        }
    }

    // ---- bare, holes, inlet, outlet; promises 9 to 12

    /** Each hole by itself, told of by each TILE: one beside it, and only one, has a hole more beside it. */
    private void besideEachHole() {
        for (int[] size : new int[][] {{2, 2}, {2, 6}, {6, 2}, {3, 4}, {6, 6}}) {
            int cols = size[1];
            int tiles = size[0] * cols;
            for (int hole = 0; hole < tiles; hole++) {
                GaleRoof x = gone(Check.told("roof " + size[0] + " " + cols + " 0; suck = bare;"), hole);
                for (int t = 0; t < tiles; t++) {
                    int apart = Math.abs(t / cols - hole / cols) + Math.abs(t % cols - hole % cols);
                    due("TILE " + t + " of " + cols + " cols beside hole " + hole, x.lift(t, 0, 0, 0), apart == 1 ? 1 : 0);
                }
            }
        }
    }

    /** Each VAR of a law at its ends. */
    private void varsOfALaw() {
        String doors = "door a 1 9 open; door b 3 8 open; ";
        GaleRoof x = Check.told("roof 3 3 1; years 99; moss 98; nailed if third == 1; " + doors
            + "suck = edge + gust * 10 + way * 1000 + age * 5000; press = grown + nails * 100 + inlet * 1000 + outlet * 9999;");
        for (int t = 0; t < 9; t++) {
            int edge = t == 4 ? 0 : t % 2 == 1 ? 1 : 2;
            due("edge, gust, way, age", x.lift(t, 99, 3, 0), edge + 990 + 3000 + 495000);
            due("edge, gust, way, age", x.lift(t, 0, 0, 0), edge + 495000);
            due("grown, nails, inlet, outlet", x.lift(t, 0, 1, 1), 98 + (t % 3 == 1 ? 100 : 0) + 9000 + 8 * 9999);
        }
        x.set(1, 3, 0);
        x.set(1, 4, 0);
        x.set(1, 1, 0);
        due("age 0", x.lift(1, 0, 0, 0), 1);
        due("grown 0, nails 0", x.lift(1, 0, 3, 1), 8000 + 9 * 9999);
    }

    private void bareAndHoles() {
        String law = "roof 3 3 0; suck = bare * 100 + holes;";
        GaleRoof x = Check.told(law);
        due("none GONE", x.lift(4, 0, 0, 0), 0);
        gone(x, 4);
        due("its own hole is not beside it", x.lift(4, 0, 0, 0), 1);
        due("beside a hole", x.lift(1, 0, 0, 0), 101);
        due("not beside it", x.lift(0, 0, 0, 0), 1);
        gone(x, 1, 3, 5, 7);
        due("all four", x.lift(4, 0, 0, 0), 405);
        due("both of a corner", x.lift(8, 0, 0, 0), 205);
        GaleRoof y = gone(Check.told(law), 0, 2, 6, 8);
        due("a corner is not beside the middle", y.lift(4, 0, 0, 0), 4);
        due("two corners beside a border", y.lift(1, 0, 0, 0), 204);
        GaleRoof z = gone(Check.told(law), 2);
        due("the next row's first is not beside the last", z.lift(3, 0, 0, 0), 1);
        due("beside", z.lift(1, 0, 0, 0) * 1000 + z.lift(5, 0, 0, 0), 101101);
        GaleRoof w = gone(Check.told(law), 3);
        due("the row's last below is not beside its first", w.lift(2, 0, 0, 0), 1);
        GaleRoof all = allGone(Check.told("roof 6 6 0; suck = bare * 100 + holes;"));
        due("36 holes, a corner", all.lift(35, 0, 0, 0), 236);
        due("36 holes, a border", all.lift(34, 0, 0, 0), 336);
        due("36 holes, the middle", all.lift(14, 0, 0, 0), 436);
        due("none is there", all.count(4), 0);
    }

    private void draughts() {
        GaleRoof none = new GaleRoof();
        for (int way = 0; way < 4; way++) {
            due("no DOORS, no holes", none.inlet(way, 0) + none.inlet(way, 1), 0);
        }
        StringBuilder six = new StringBuilder();
        for (int d = 0; d < 6; d++) {
            six.append("door d").append((char) ('a' + d)).append(" 2 9 open;");
        }
        for (int faces = 0; faces < 4; faces++) {
            GaleRoof x = Check.told("roof 6 6 " + faces + ";" + six);
            for (int way = 0; way < 4; way++) {
                due("six DOORS of 9 in", x.inlet(way, 0), way == 2 ? 54 : 0);
                due("six DOORS of 9 out", x.inlet(way, 1), way == 2 ? 0 : 54);
            }
            allGone(x);
            for (int way = 0; way < 4; way++) {
                due("and 36 holes in", x.inlet(way, 0), (way == 2 ? 54 : 0) + (way == faces ? 36 : 0));
                due("and 36 holes out", x.inlet(way, 1), (way == 2 ? 0 : 54) + (way == faces ? 0 : 36));
            }
            for (int d = 0; d < 6; d++) {
                due("shut", x.open(d, false), true);
                due("a shut one is no way in", x.inlet(2, 0), 9 * (5 - d) + (faces == 2 ? 36 : 0));
            }
            due("no 7th DOOR", x.open(6, true), false);
            due("no 7th DOOR", x.door(6, 2), -1);
        }
        GaleRoof y = Check.told("roof 2 2 0; door a 0 1; door b 3 9 open;");
        due("shut as told", y.door(0, 2), 0);
        due("open as told", y.door(1, 2), 1);
        due("shut again", y.open(0, false), true);
        due("open again", y.open(1, true), true);
        due("as they were", y.door(0, 2) * 10 + y.door(1, 2), 1);
        due("the least SIZE, side", y.door(0, 1) * 10 + y.door(0, 0), 10);
        due("the greatest SIZE, side", y.door(1, 1) * 10 + y.door(1, 0), 93);
        due("without DOORS none is opened", new GaleRoof().open(0, true), false);
        due("without DOORS none is told", new GaleRoof().door(0, 0), -1);
        GaleRoof f = new GaleRoof();
        due("no FELT at first", f.felt(false), false);
        due("none yet", f.felt(true), false);
        due("it lies", f.felt(true), true);
        due("it lay", f.felt(false), true);
        due("none more", f.felt(false), false);
    }

    // ---- promises 7 and 8

    private void marksAtTheirEnds() {
        GaleRoof x = Check.told("roof 2 2 0; years 40; moss 50;");
        for (int t = 0; t < 4; t += 3) {
            for (int what = 1; what <= 4; what++) {
                int top = what <= 2 ? 1 : 99;
                for (int value : new int[] {top, top + 1, -1, 256, HIGH, LOW}) {
                    due("set " + what + " to " + value, x.set(t, what, value), value == top);
                    due("mark " + what, x.tile(t, what), top);
                }
                for (int value : new int[] {0, -1, top + 1}) {
                    due("set " + what + " to " + value, x.set(t, what, value), value == 0);
                    due("mark " + what, x.tile(t, what), 0);
                }
            }
        }
        due("the others stay", x.tile(1, 3) * 100 + x.tile(2, 4), 4050);
        due("what 0 is not set", x.set(0, 0, 0), false);
        due("still there", x.tile(0, 0), 1);
        due("what 5 is not set", x.set(0, 5, 1), false);
        due("the same edge", x.tile(0, 5), 2);
        x.set(1, 1, 1);
        due("NAILED anew, AGE stays", x.tile(1, 3), 40);
        x.set(1, 1, 1);
        due("NAILED again, AGE stays", x.tile(1, 3), 40);
        x.set(1, 1, 0);
        due("no more NAILED, AGE stays", x.tile(1, 3), 40);
    }

    private void goneAndBack() {
        GaleRoof x = Check.told("roof 2 2 0;");
        x.car(2000);
        x.set(0, 1, 1);
        x.set(0, 2, 1);
        x.set(0, 3, 33);
        x.set(0, 4, 44);
        due("it is there already", x.there(0, true), false);
        due("it goes", x.there(0, false), true);
        due("it is GONE already", x.there(0, false), false);
        due("it lies nowhere", x.yardTells(2), 0);
        due("it hit none", x.hits(0), 0);
        due("a GONE one is told otherwise", x.set(0, 4, 45), true);
        due("TILES", x.count(4), 3);
        due("it is there again", x.there(0, true), true);
        due("as it was else", x.tile(0, 1) * 1000000 + x.tile(0, 2) * 100000 + x.tile(0, 3) * 1000 + x.tile(0, 4), 1133045);
        due("TILES", x.count(4), 4);
        due("nothing lies", x.sweep(), 0);
        GaleRoof y = allGone(new GaleRoof());
        due("all GONE", y.count(4), 0);
        due("all at a GUST", y.fall(99, 0, 0), 0);
        due("no round", y.fall(99, 0, 1), 0);
        due("none falls", y.fallen(99, 0, 0), -1);
        due("none lands", y.lands(0, 99, 0), -2);
        due("no worst", y.worst(99, 0), -2);
        due("no first", y.first(0, false), -2);
        due("no first GUST", y.first(0, true), -2);
        due("none goes", y.goes(15, 0, true), -2);
        due("BLOWN", y.blow(99, 0), 0);
        due("none lies", y.sweep(), 0);
        due("the last one back", y.there(15, true), true);
        due("it alone goes", y.blow(99, 0), 1);
    }

    // ---- promise 13

    private void forcesWithoutLaws() {
        GaleRoof x = Check.told("roof 3 3 0; door a 0 1 open; door b 2 1;");
        int[][] sucks = {{0, 0, 0, 0}, {1, 1, 1, 2}, {2, 2, 3, 4}, {3, 3, 4, 6}, {99, 99, 148, 198}};
        for (int[] s : sucks) {
            due("SUCK, edge 0", x.lift(4, s[0], 0, 0), s[1]);
            due("SUCK, edge 1", x.lift(1, s[0], 0, 0), s[2]);
            due("SUCK, edge 2", x.lift(8, s[0], 0, 0), s[3]);
        }
        int[][] presses = {{0, 0}, {9, 0}, {10, 1}, {19, 1}, {20, 2}, {99, 9}};
        for (int[] p : presses) {
            due("PRESS", x.lift(4, p[0], 0, 1), p[1]);
            due("PRESS from behind, towards 0", x.lift(4, p[0], 1, 1), -p[1]);
        }
        x.open(1, true);
        due("as much in as out", x.lift(4, 99, 0, 1), 0);
        due("two out", x.lift(4, 99, 1, 1), -19);
        x.felt(true);
        due("under FELT", x.lift(4, 99, 1, 1), 0);
        due("LIFT under FELT", x.lift(4, 99, 1, 3), 99 - 25);
        x.felt(false);
        due("without again", x.lift(4, 99, 1, 3), 99 - 19 - 25);
    }

    private void whatHolds() {
        GaleRoof x = Check.told("roof 3 2 0; weigh 99; lap 99; nail 99; clip 99; moss 99; nailed if 1 == 1; clipped if 1 == 1;");
        due("all at their most", x.lift(0, 0, 0, 2), 495);
        due("LIFT", x.lift(0, 0, 0, 3), -495);
        due("none above the top row", x.lift(4, 0, 0, 2), 396);
        x.there(2, false);
        due("the one above is GONE", x.lift(0, 0, 0, 2), 396);
        due("the one beside it is not above", x.lift(1, 0, 0, 2), 495);
        due("a GONE one with one above", x.lift(2, 0, 0, 2), 495);
        due("all at their least", Check.told("weigh 0; lap 0; nail 0; clip 0; nailed if 1 == 1; clipped if 1 == 1;").lift(0, 99, 0, 2), 0);
        GaleRoof y = Check.told("weigh 0; lap 0; nail 30; nailed if col == 0;");
        int[][] nails = {{0, 30}, {1, 29}, {29, 1}, {30, 0}, {31, 0}, {99, 0}};
        for (int[] n : nails) {
            y.set(0, 3, n[0]);
            y.set(1, 3, n[0]);
            due("NAIL less AGE " + n[0], y.lift(0, 0, 0, 2), n[1]);
            due("not NAILED", y.lift(1, 0, 0, 2), 0);
        }
        GaleRoof z = Check.told("weigh 0; lap 0; nail 99; years 99; nailed if 1 == 1;");
        due("NAIL 99 at AGE 99", z.lift(0, 0, 0, 2), 0);
        z.set(0, 3, 98);
        due("NAIL 99 at AGE 98", z.lift(0, 0, 0, 2), 1);
        due("NAIL 0 at AGE 0", Check.told("weigh 0; lap 0; nail 0; nailed if 1 == 1;").lift(0, 0, 0, 2), 0);
        due("holds below 0", Check.told("weigh 3; lap 0; holds = 0 - 10;").lift(0, 0, 0, 2), -7);
        due("holds is more, not instead", Check.told("weigh 3; lap 2; holds = 10;").lift(0, 0, 0, 2), 15);
    }

    private void liftWraps() {
        GaleRoof x = Check.told("weigh 0; lap 0; suck = " + MOST + "; press = 1;");
        due("SUCK and PRESS wrap", x.lift(0, 0, 0, 3), LOW);
        due("so none goes", x.fall(0, 0, 0), 0);
        x.felt(true);
        due("under FELT it does not wrap", x.lift(0, 0, 0, 3), HIGH);
        due("so all go", x.fall(0, 0, 0), 16);
        GaleRoof y = Check.told("weigh 1; lap 0; suck = " + MOST + " + 1; press = 0;");
        due("less HOLD wraps", y.lift(0, 0, 0, 3), HIGH);
        due("so all go", y.fall(0, 0, 0), 16);
        GaleRoof z = Check.told("weigh 1; lap 0; suck = 0; press = 0; holds = " + MOST + ";");
        due("HOLD wraps", z.lift(0, 0, 0, 2), LOW);
        due("less the least", z.lift(0, 0, 0, 3), LOW);
        due("so none goes", z.fall(0, 0, 0), 0);
        GaleRoof w = Check.told("weigh 1; lap 0; suck = " + MOST + "; press = 1;");
        due("there and back", w.lift(0, 0, 0, 3), HIGH);
        GaleRoof v = Check.told("weigh 0; lap 0; suck = 0; press = 0; holds = 0 - " + MOST + ";");
        due("less than nothing holds", v.lift(0, 0, 0, 3), HIGH);
    }

    // ---- promises 14 and 15

    private void leastGusts() {
        for (int only : new int[] {0, 1, 57, 98, 99}) {
            GaleRoof x = Check.told("roof 6 6 0; " + BARE + "suck = (1 - (gust - " + only + ") * (gust - " + only + ")) * (row * 6 + col - 34);");
            // TILE 35 goes at that GUST alone, all below 34 at GUSTS two and more away; without these:
            for (int t = 0; t < 34; t++) {
                x.there(t, false);
            }
            due("goes at " + only, x.goes(35, 1, false), only);
            due("goes far at " + only, x.goes(35, 1, true), only);
            due("34 does never", x.goes(34, 1, true), -2);
            due("first", x.first(2, false), 35);
            due("its GUST", x.first(2, true), only);
        }
        GaleRoof up = Check.told("weigh 98; lap 0; press = 0; suck = gust;");
        due("at the last GUST", up.goes(15, 3, false), 99);
        due("far at the last GUST", up.goes(15, 3, true), 99);
        due("first at the last GUST", up.first(3, true), 99);
        due("of alike ones TILE 0", up.first(3, false), 0);
        GaleRoof never = Check.told("weigh 99; lap 0; press = 0; suck = gust;");
        due("LIFT 0 is not above 0", never.lift(0, 99, 0, 3), 0);
        due("at none", never.goes(0, 3, false), -2);
        due("far at none", never.goes(0, 3, true), -2);
        due("first at none", never.first(3, true), -2);
        due("first at none", never.first(3, false), -2);
        due("at once", Check.told(BARE + "suck = 1;").goes(0, 0, false), 0);
        // No GUST is below 0.
        GaleRoof below = Check.told(BARE + "suck = 0 - gust;");
        due("at none", below.goes(0, 0, false), -2);
        due("far at none", below.goes(0, 0, true), -2);
        due("first at none", below.first(0, true), -2);
        due("first at none", below.first(0, false), -2);
        // TILE 0 goes by the holes that others leave: in the first round later, or never.
        GaleRoof far = Check.told(BARE + "suck = (gust - 20) * (row + col) + holes - 1;");
        due("the first round at none", far.goes(0, 0, false), -2);
        due("a later one at 21", far.goes(0, 0, true), 21);
        gone(far, 1, 2);
        due("two holes: the first round at 0", far.goes(0, 0, false), 0);
        gone(far, 0);
        due("GONE", far.goes(0, 0, false), -2);
        due("GONE, far", far.goes(0, 0, true), -2);
        due("GONE and no WAY: NONE", far.goes(0, 4, true), -1);
        due("GONE and no WAY: NONE", far.goes(0, -1, false), -1);
        // By different WAYS.
        GaleRoof ways = Check.told(BARE + "suck = gust - 90 + 10 * way;");
        for (int way = 0; way < 4; way++) {
            due("goes from WAY " + way, ways.goes(5, way, false), 91 - 10 * way);
            due("first from WAY " + way, ways.first(way, true), 91 - 10 * way);
        }
        due("the last in the row is first", Check.told("roof 6 6 0; " + BARE + "suck = gust + row * 6 + col - 34;").first(0, false), 35);
        due("at its GUST", Check.told("roof 6 6 0; " + BARE + "suck = gust + row * 6 + col - 35;").first(0, true), 1);
    }

    // ---- promises 16 to 19

    private void rounds() {
        GaleRoof x = Check.told(ONE_BY_ONE + "far = holes;");
        due("36 go", x.fall(0, 0, 0), 36);
        due("in 36 rounds", x.fall(0, 0, 1), 36);
        for (int t = 0; t < 36; t++) {
            due("in its ORDER", x.fallen(7, 1, t), t);
            due("in its round", x.round(t, 7, 1), t);
            due("FAR by what is GONE ahead of its round", x.lands(t, 7, 1), 3000 + 100 * (t / 6) + Math.min(19, t));
        }
        due("no 37th", x.fallen(7, 1, 36), -1);
        due("none below 0", x.fallen(7, 1, -1), -1);
        for (int i : new int[] {37, HIGH, LOW, 256, -36}) {
            due("no such i", x.fallen(7, 1, i), -1);
        }
        GaleRoof back = Check.told(ONE_BY_ONE.replace("holes - row * 6 - col", "35 - holes - row * 6 - col"));
        due("36 rounds", back.fall(50, 2, 1), 36);
        for (int i = 0; i < 36; i++) {
            due("rounds ahead of numbers", back.fallen(50, 2, i), 35 - i);
            due("rounds ahead of numbers", back.round(i, 50, 2), 35 - i);
        }
        GaleRoof once = Check.told("roof 6 6 0; " + BARE + "suck = 1 - holes;");
        due("all at once by what is GONE ahead", once.fall(0, 0, 0) * 10 + once.fall(0, 0, 1), 361);
        for (int t = 0; t < 36; t++) {
            due("by numbers", once.fallen(0, 0, t), t);
            due("round 0", once.round(t, 0, 0), 0);
        }
        gone(once, 17);
        due("one is GONE: none goes", once.fall(0, 0, 0) * 10 + once.fall(0, 0, 1), 0);
        due("none goes: no round", once.round(0, 0, 0), -2);
        due("none goes: no CELL", once.lands(0, 0, 0), -2);
        due("none goes: no TILE", once.fallen(0, 0, 0), -1);
        GaleRoof some = gone(Check.told("roof 2 2 0; " + BARE + "suck = 1;"), 1);
        due("a GONE one goes no more", some.fall(0, 0, 0), 3);
        due("ORDER without it", some.fallen(0, 0, 1), 2);
        due("the last", some.fallen(0, 0, 2), 3);
        due("not so many", some.fallen(0, 0, 3), -1);
        due("GONE: no round", some.round(1, 0, 0), -2);
        due("GONE: no CELL", some.lands(1, 0, 0), -2);
        due("GONE and no GUST: NONE", some.round(1, 100, 0), -1);
        due("GONE and no WAY: NONE", some.lands(1, 0, 4), -1);
        GaleRoof hold = Check.told("weigh 20; lap 0; press = 0; suck = gust;");
        due("LIFT 0: none", hold.fall(20, 0, 0), 0);
        due("LIFT 1: all", hold.fall(21, 0, 0), 16);
    }

    /** Each call by itself, and behind others that look at another GUST. */
    private void eachCallAlone() {
        String text = "roof 2 3 0; weigh 10; lap 0; press = 0; suck = gust + col + holes; far = row + col * 2;";
        // At GUST 9 col 2 goes, then all others at once; at 8 none does.
        due("round, first of all", Check.told(text).round(1, 9, 0), 1);
        due("lands, first of all", Check.told(text).lands(1, 9, 0), 2102);
        due("fallen, first of all", Check.told(text).fallen(9, 0, 3), 1);
        due("fall, first of all", Check.told(text).fall(9, 0, 1), 2);
        due("worst, first of all", Check.told(text).worst(9, 0), 2000);
        GaleRoof x = Check.told(text);
        due("round", x.round(5, 9, 0), 0);
        due("round at a GUST less", x.round(5, 8, 0), -2);
        due("fall at that GUST", x.fall(8, 0, 0), 0);
        due("round behind it", x.round(0, 9, 0), 1);
        due("lift in between", x.lift(0, 99, 3, 0), 99);
        due("round behind it", x.round(1, 9, 0), 1);
        due("lands at a GUST less", x.lands(1, 8, 0), -2);
        due("lands behind it", x.lands(1, 9, 3), 1002);
        due("worst at a GUST less", x.worst(8, 0), -2);
        due("fallen behind it", x.fallen(9, 0, 0), 2);
        due("lands behind a round", x.lands(5, 9, 2), 205);
        x.harm();
        due("fall behind HARM", x.fall(9, 0, 0), 6);
        x.there(5, false);
        due("as it is now", x.fall(8, 0, 0), 5);
    }

    private void cellsOfLanding() {
        int[] sides = {2, 3, 0, 1};
        for (int[] size : new int[][] {{2, 6}, {6, 2}, {6, 6}}) {
            GaleRoof x = Check.told("roof " + size[0] + " " + size[1] + " 0; " + BARE + "suck = 1; far = 19;");
            int last = size[0] * size[1] - 1;
            for (int way = 0; way < 4; way++) {
                int line = way % 2 == 0 ? size[1] - 1 : size[0] - 1;
                due("the last TILE from WAY " + way, x.lands(last, 0, way), 1000 * sides[way] + 100 * line + 19);
                due("TILE 0 from WAY " + way, x.lands(0, 0, way), 1000 * sides[way] + 19);
            }
        }
        String[] fars = {"0 - 1", "0", "1", "18", "19", "20", "9999", MOST, MOST + " + 1", "0 - " + MOST + " - 2", "5 / 0"};
        int[] want = {0, 0, 1, 18, 19, 19, 19, 19, 0, 19, 0};
        for (int i = 0; i < fars.length; i++) {
            due("far = " + fars[i], Check.told(BARE + "suck = 1; far = " + fars[i] + ";").lands(0, 50, 2), want[i]);
        }
        GaleRoof plain = Check.told(BARE + "suck = 1;");
        int[][] gusts = {{0, 0}, {9, 0}, {10, 1}, {89, 8}, {90, 9}, {99, 9}};
        for (int[] g : gusts) {
            due("FAR without a law at " + g[0], plain.lands(0, g[0], 2), g[1]);
        }
    }

    // ---- promises 20 to 25

    private void blown() {
        GaleRoof x = Check.told("roof 2 3 0; weigh 20; lap 0; press = 0; suck = gust; far = 0;");
        due("CAR on CELL 0", x.car(0), 0);
        due("CAR on CELL 200", x.car(200), 1);
        due("LIFT 0: nothing goes", x.blow(20, 2), 0);
        due("nothing lies", x.sweep(), 0);
        due("no hit", x.hits(0), 0);
        due("all there", x.count(4), 6);
        due("LIFT 1: all go", x.blow(21, 2), 6);
        due("none there", x.count(4), 0);
        due("two on CELL 0", x.yard(0), 2);
        due("two on CELL 200", x.yard(200), 2);
        due("none on CELL 1", x.yard(1), 0);
        due("hit once for each", x.hits(0) * 10 + x.hits(1), 22);
        due("a CAR that comes later", x.car(0), 2);
        due("is not hit by what lies", x.hits(2), 0);
        due("nothing is left to go", x.blow(99, 2), 0);
        due("what lies stays", x.yard(0), 2);
        x.there(0, true);
        due("one more", x.blow(99, 2), 1);
        due("three lie", x.yard(0), 3);
        due("both CARS there are hit", x.hits(0) * 10 + x.hits(2), 31);
        due("the other is not", x.hits(1), 2);
        due("swept", x.sweep(), 7);
        due("swept again", x.sweep(), 0);
        due("hits stay", x.hits(0) * 100 + x.hits(1) * 10 + x.hits(2), 321);
    }

    private void carsAndCells() {
        GaleRoof x = new GaleRoof();
        due("no CAR", x.hits(0), -1);
        int[] ends = {0, 19, 500, 519, 3000, 3019, 3500, 3519};
        for (int i = 0; i < 8; i++) {
            due("no CAR yet", x.hits(i), -1);
            due("a CAR", x.car(ends[i]), i);
            due("its hits", x.hits(i), 0);
        }
        due("a 9th", x.car(0), -1);
        due("CARS", x.count(6), 8);
        due("no 9th", x.hits(8), -1);
        GaleRoof y = new GaleRoof();
        due("a refused one", y.car(4000), -1);
        due("is no CAR: the next is the first", y.car(0), 0);
        due("a refused one", y.car(20), -1);
        due("the next is the second", y.car(0), 1);
    }

    /** One TILE on each CELL at the ends of the sides and lines: it lies there, on that CELL alone, and hits the CAR there alone. */
    private void cellsAreApart() {
        for (int way = 0; way < 4; way++) {
            for (int line = 0; line <= 5; line += 5) {
                for (int far : new int[] {0, 1, 18, 19}) {
                    GaleRoof x = Check.told("roof 6 6 0; " + BARE + "suck = age + grown; far = grown;");
                    int tile = 7 * line;
                    x.set(tile, 3, 1);
                    x.set(tile, 4, far);
                    int cell = 1000 * (way ^ 2) + 100 * line + far;
                    x.car(far > 0 ? cell - 1 : line > 0 ? cell - 81 : cell == 0 ? 3519 : cell - 481);
                    x.car(cell);
                    x.car(far < 19 ? cell + 1 : line < 5 ? cell + 81 : cell == 3519 ? 0 : cell + 481);
                    due("one goes", x.blow(0, way), 1);
                    for (int i = 0; i < 480; i++) {
                        int other = i / 120 * 1000 + i / 20 % 6 * 100 + i % 20;
                        due("CELL " + other + " when one lies on " + cell, x.yard(other), other == cell ? 1 : 0);
                    }
                    due("the CAR there alone", x.hits(0) * 100 + x.hits(1) * 10 + x.hits(2), 10);
                }
            }
        }
    }

    /** What lies on one CELL, and how often a CAR was hit, is counted well above a byte. */
    private void manyOnOneCell() {
        GaleRoof x = Check.told("roof 6 2 0; " + BARE + "suck = 1 - col; far = 0;");
        x.car(2000);
        x.car(2000);
        due("col 0 goes", x.blow(5, 0), 6);
        for (int i = 0; i < 70; i++) {
            for (int t = 0; t < 12; t += 2) {
                x.there(t, true);
            }
            due("col 0 goes again", x.blow(5, 0), 6);
        }
        due("all on one CELL", x.yard(2000), 426);
        due("all on a CAR", x.hits(0), 426);
        due("and on the other", x.hits(1), 426);
        due("how far apart", x.yardTells(2), 420);
        due("swept", x.sweep(), 426);
    }

    private void worstCells() {
        due("of alike ones the least, though it comes later", Check.told("roof 2 2 0; " + BARE + "suck = 1; far = 1 - row;").worst(0, 0), 2000);
        due("the most, though it is not the least", Check.told("roof 2 2 0; " + BARE + "suck = 1; far = (row + col + 2) / 3;").worst(0, 0), 2101);
        due("all on one", Check.told("roof 6 2 0; " + BARE + "suck = col;").worst(0, 0), 2100);
        due("the greatest CELL", gone(Check.told("roof 6 6 0; " + BARE + "suck = row * 6 + col - 34; far = 19;")).worst(0, 1), 3519);
        due("the least CELL", Check.told("roof 6 6 0; " + BARE + "suck = 1 - row * 6 - col; far = 0;").worst(0, 2), 0);
        GaleRoof all = Check.told("roof 6 6 0; " + BARE + "suck = 1; far = 0;");
        due("36 go", all.worst(0, 0), 2000);
        due("36 go", all.worst(0, 3), 1000);
        all.blow(0, 1);
        due("none is left", all.worst(0, 0), -2);
        due("nothing goes", Check.told("suck = 0;").worst(99, 0), -2);
        due("nothing goes, no GUST: NONE", Check.told("suck = 0;").worst(100, 0), -1);
        due("nothing goes, no WAY: NONE", Check.told("suck = 0;").worst(99, -1), -1);
    }

    /** An object is good for 512 calls: the last is answered as the first. */
    private void fiveHundredAndTwelveCalls() {
        GaleRoof x = new GaleRoof();
        for (int i = 0; i < 128; i++) {
            due("GONE", x.there(i % 16, false), true);
            due("GONE already", x.there(i % 16, false), false);
            due("back", x.there(i % 16, true), true);
            due("TILES", x.count(4), 16);
        }
        GaleRoof y = new GaleRoof();
        for (int i = 0; i < 512; i++) {
            due("a FACT", y.house(i % 100, i % 4, i % 10, i % 100), i < 60 ? i : -1);
        }
        GaleRoof z = new GaleRoof();
        for (int i = 0; i < 256; i++) {
            due("held", z.hold(i % 3), true);
            due("restored", z.restore(i % 3), true);
        }
    }

    public static void main(String[] args) {
        RoofEdgesTest test = new RoofEdgesTest();
        test.tilesOfEachSize();
        test.rulesSeePlacesAlone();
        test.numbers();
        test.divisionsByZero();
        test.condsJoin();
        test.besideEachHole();
        test.varsOfALaw();
        test.bareAndHoles();
        test.draughts();
        test.marksAtTheirEnds();
        test.goneAndBack();
        test.forcesWithoutLaws();
        test.whatHolds();
        test.liftWraps();
        test.leastGusts();
        test.rounds();
        test.eachCallAlone();
        test.cellsOfLanding();
        test.blown();
        test.carsAndCells();
        test.cellsAreApart();
        test.manyOnOneCell();
        test.worstCells();
        test.fiveHundredAndTwelveCalls();
        test.check.end();
    }
}
