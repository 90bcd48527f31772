/** Each promise by hand: ordinary inputs, the edges that the document names, and wrong inputs. */
public final class PromisesTest {
    /** At GUST 9 col 2 goes, at 10 col 1 too, at 11 all, in one round; each lands row + 2 * col away. */
    private static final String COLUMNS = "roof 2 3 0; weigh 10; lap 0; press = 0; suck = gust + col; far = row + col * 2;";
    /** From 11 on the top row goes first, then the one below, then the eave. */
    private static final String CHAIN = "roof 3 2 0; weigh 10; lap 5; press = 0; suck = gust + bare * 5;";
    private static final int LOW = Integer.MIN_VALUE;
    private static final int HIGH = Integer.MAX_VALUE;

    private final Check check = new Check("PromisesTest");

    private void due(String call, long got, long want) {
        check.due(call, got, want);
    }

    private void due(String call, boolean got, boolean want) {
        check.due(call, got, want);
    }

    private void fault(String text, int number, int place) {
        GaleRoof x = new GaleRoof();
        due("read of " + text, Check.read(x, text), number);
        due("place of " + text, x.place(), place);
    }

    private void p1NewObject() {
        GaleRoof x = new GaleRoof();
        int[] want = {4, 4, 0, 0, 16, 0, 0, 0, 0, 0, 0, 0, 0, 20, 5, 30, 25, -1};
        for (int i = 0; i < want.length; i++) {
            due("new: count " + i, x.count(i), want[i]);
        }
        for (int t = 0; t < 16; t++) {
            due("new: there", x.tile(t, 0), 1);
            due("new: nailed, clipped, age, moss", x.tile(t, 1) + x.tile(t, 2) + x.tile(t, 3) + x.tile(t, 4), 0);
        }
        due("new: felt", x.felt(false), false);
        due("new: restore", x.restore(0), false);
        due("new: sweep", x.sweep(), 0);
        due("new: place", x.place(), -1);
        due("new: no rule warns", x.warned(0, 0, 0), 0);
        due("NONE", GaleRoof.NONE, -1);
    }

    private void p2Feed() {
        GaleRoof x = new GaleRoof();
        // "lap 9;" and blanks: the highest byte of the first int comes first.
        due("feed", x.feed(0x6c617020, 0x393b2020, 0x20202020, 0x20202020, 0x20202020), 20);
        due("read", x.read(), 0);
        due("LAP", x.count(14), 9);
        for (int i = 1; i <= 100; i++) {
            due("feed", x.feed(0x20202020, 0x20202020, 0x20202020, 0x20202020, 0x20202020), 20 * i);
        }
        due("feed beyond", x.feed(0, 0, 0, 0, 0), -1);
        due("bytes", x.count(8), 2000);
        due("back", x.back(19), 1981);
        due("feed beyond", x.feed(0, 0, 0, 0, 0), -1);
        due("back", x.back(1), 1980);
        due("feed to the brim", x.feed(-1, -1, -1, -1, -1), 2000);
        due("read", x.read(), 1);
        due("place", x.place(), 1980);
        due("bytes", x.count(8), 0);
    }

    private void p3Back() {
        GaleRoof x = new GaleRoof();
        due("back of none", x.back(0), 0);
        due("back of too many", x.back(1), -1);
        Check.feed(x, "lap 12;");
        due("back below 0", x.back(-1), -1);
        due("back least", x.back(LOW), -1);
        due("back of too many", x.back(8), -1);
        due("bytes", x.count(8), 7);
        due("back", x.back(2), 5);
        Check.feed(x, ";");
        due("read", x.read(), 0);
        due("LAP", x.count(14), 1);
        Check.feed(x, "!");
        due("back of all", x.back(1), 0);
        due("read", x.read(), 0);
    }

    private void p4Read() {
        fault("", 0, -1);
        fault(" \t\r\n", 0, -1);
        fault("roof 2 6 3;weigh 99;lap 0;nail 0099;clip 7;years 1;moss 2;", 0, -1);
        fault("door a 0 1;door b 3 9 open;door c0 5;", 0, -1);
        fault("nailed if not not row==1 and col<2 or 3<=edge;", 0, -1);
        fault("suck=1+2*(gust-3)/4;press=(((((((1))))));", 2, 32);
        fault("far=((((((1))))))*((2));", 0, -1);
        fault("roof 4 4;", 1, 8);
        fault("roof 4 4 0", 1, 10);
        fault("roof 4 4 0  ", 1, 12);
        fault("lap -1;", 1, 4);
        fault("lap 12345;", 1, 4);
        fault("door abcdefghi 0 1;", 1, 5);
        fault("door abcdefgh 0 1;", 0, -1);
        fault("door open 0 1;", 1, 5);
        fault("door nails 0 1;", 1, 5);
        fault("door a 0 1 shut;", 1, 11);
        fault("door A 0 1;", 1, 5);
        fault("door az 0 1; door za 0 1; door aaaaaaa 0 1; door zzzzzzzz 0 1; door roofs 0 1;", 0, -1);
        fault("door ` 0 1;", 1, 5);
        fault("door { 0 1;", 1, 5);
        fault("lap :;", 1, 4);
        fault("lap 99;lap 09;\u000b", 1, 14);
        fault("lap \u00b9;", 1, 4);
        fault("lap 1;;", 1, 6);
        fault("suck == 1;", 1, 5);
        fault("suck = 1 = 2;", 1, 9);
        fault("suck = row == 2;", 1, 11);
        fault("warn if (row == 1);", 1, 13);
        fault("warn if row = 1;", 1, 12);
        fault("warn if row ! = 1;", 1, 12);
        fault("warn if row < = 1;", 1, 14);
        fault("warn if row;", 1, 11);
        fault("warn if not;", 1, 11);
        fault("warn age == 1;", 1, 5);
        fault("far = 1 + ;", 1, 10);
        fault("far = abc;", 1, 6);
        fault("far = 1 .", 1, 8);
        fault("roof 1 7 4;", 5, 5);
        fault("roof 2 7 4;", 5, 7);
        fault("roof 2 6 4;", 5, 9);
        fault("lap 100;", 5, 4);
        fault("moss 99;years 0100;", 5, 14);
        fault("far = 9999; warn if age < 9999;", 0, -1);
        fault("door a 4 0;", 5, 7);
        fault("door a 3 0;", 5, 9);
        fault("door a 3 10;", 5, 9);
        fault("door a 0 1;door b 0 1;door a 9 1;", 3, 27);
        fault("lap 100;door a 0 1;door a 0 1;", 5, 4);
        fault("door a 0 1;door a 0 1;lap 100;", 3, 16);
        fault("lap 100;door a 0 1;door a 0 1;lap", 1, 33);
        String rule = "warn if 1<2;";
        fault(rule.repeat(6) + rule.replace("warn", "nailed").repeat(6) + rule.replace("warn", "clipped").repeat(6), 0, -1);
        fault(rule.repeat(7), 2, 72);
        fault("lap 100;" + rule.repeat(6) + "warn lap", 2, 80);
        fault("door a 0 1;door b 0 1;door c 0 1;door d 0 1;door e 0 1;door f 0 1;door a 9 9;", 2, 66);
        fault("lap 1;".repeat(133) + "\n;", 1, 799);
        fault("lap 1;".repeat(132) + "roof 2 2 0", 1, 802);
        String most = "lap 1;".repeat(130) + "roof 2 2 0;" + "door a 0 1;";
        fault(most, 0, -1);
        fault(most + "roof", 2, 802);
        fault(most + "abc", 1, 802);
        readKeepsOrClears();
    }

    private void readKeepsOrClears() {
        GaleRoof x = Check.told("roof 2 2 1; door a 1 3; lap 9; warn if 1 == 1;");
        x.felt(true);
        x.car(5);
        x.gust(40, 0, 1);
        x.open(0, true);
        x.there(0, false);
        x.blow(99, 2);
        x.house(1, 1, 1, 1);
        x.hold(1);
        due("a FAULT", Check.read(x, "lap 7; lap 100;"), 5);
        int[] want = {2, 2, 1, 1, 0, 1, 1, 1, 0, 1, 0, 0, 1, 20, 9};
        for (int i = 0; i < want.length; i++) {
            due("a FAULT changes nothing: count " + i, x.count(i), want[i]);
        }
        due("a FAULT leaves FELT", x.felt(true), true);
        due("a FAULT leaves a DOOR", x.door(0, 2), 1);
        due("a FAULT leaves the SLOT", x.restore(1), true);
        due("a text", Check.read(x, "roof 3 3 2; roof 2 5 3; lap 4; lap 3; door q 2 7 open; suck = 1; suck = 2;"), 0);
        int[] fresh = {2, 5, 3, 1, 10, 1, 0, 0, 0, 0, 0, 0, 0, 20, 3};
        for (int i = 0; i < fresh.length; i++) {
            due("a text is in place of the one ahead: count " + i, x.count(i), fresh[i]);
        }
        due("the last law", x.lift(0, 50, 0, 0), 2);
        due("no FELT", x.felt(false), false);
        due("an empty YARD", x.sweep(), 0);
        due("the SLOT holds nothing", x.restore(1), false);
        due("an empty text", x.read(), 0);
        due("ROWS", x.count(0), 4);
        due("the law is gone", x.lift(0, 50, 0, 0), 100);
    }

    private void p5Place() {
        GaleRoof x = new GaleRoof();
        due("ahead of a read", x.place(), -1);
        Check.read(x, "   lap");
        due("the end", x.place(), 6);
        due("again", x.place(), 6);
        x.read();
        due("without", x.place(), -1);
    }

    private void p6Tile() {
        GaleRoof x = Check.told("roof 3 4 0; years 7; moss 8; nailed if third == 1; clipped if edge == 2 or row * col == 1;");
        int[] edges = {2, 1, 1, 2, 1, 0, 0, 1, 2, 1, 1, 2};
        for (int t = 0; t < 12; t++) {
            due("there", x.tile(t, 0), 1);
            due("NAILED", x.tile(t, 1), t % 3 == 1 ? 1 : 0);
            due("CLIPPED", x.tile(t, 2), edges[t] == 2 || t == 5 ? 1 : 0);
            due("AGE", x.tile(t, 3), 7);
            due("MOSS", x.tile(t, 4), 8);
            due("edge", x.tile(t, 5), edges[t]);
        }
        due("no TILE", x.tile(12, 0), -1);
        due("no TILE", x.tile(-1, 5), -1);
        due("no TILE", x.tile(HIGH, 1), -1);
        due("no what", x.tile(0, 6), -1);
        due("no what", x.tile(0, -1), -1);
        // All other VARS are 0: a division by one does not hold, its not does.
        GaleRoof y = Check.told("years 5; moss 5; nailed if age + grown + gust + way + bare + holes + inlet + outlet + nails != 0; nailed if 1 / age == 0; clipped if not 1 / age == 1; nailed if not not 1 / age == 0;");
        due("other VARS", y.tile(3, 1), 0);
        due("not a LIT by 0", y.tile(3, 2), 1);
        due("and binds more than or", Check.told("nailed if 1 == 1 or 1 == 1 and 1 == 2;").tile(0, 1), 1);
        due("not binds most", Check.told("nailed if not 1 == 2 and 1 == 2;").tile(0, 1), 0);
        due("- from the left", Check.told("nailed if 9 - 3 - 2 == 4;").tile(0, 1), 1);
        due("/ from the left", Check.told("nailed if 100 / 10 * 2 == 20;").tile(0, 1), 1);
        due("/ towards 0", Check.told("nailed if (0 - 7) / 2 == 0 - 3;").tile(0, 1), 1);
        due("wrapping", Check.told("nailed if 9999 * 9999 * 99 < 0;").tile(0, 1), 9999 * 9999 * 99 < 0 ? 1 : 0);
    }

    private void p7Set() {
        GaleRoof x = Check.told("years 7;");
        due("nail", x.set(3, 1, 1), true);
        due("NAILED", x.tile(3, 1), 1);
        due("AGE stays", x.tile(3, 3), 7);
        due("nail again", x.set(3, 1, 1), true);
        due("clip", x.set(3, 2, 1), true);
        due("unclip", x.set(3, 2, 0), true);
        due("CLIPPED", x.tile(3, 2), 0);
        due("age", x.set(3, 3, 99), true);
        due("AGE", x.tile(3, 3), 99);
        due("moss", x.set(3, 4, 0), true);
        x.there(4, false);
        due("a GONE one", x.set(4, 4, 9), true);
        due("MOSS", x.tile(4, 4), 9);
        int[][] wrong = {{3, 0, 0}, {3, 5, 1}, {3, -1, 1}, {3, 1, 2}, {3, 1, -1}, {3, 2, 2}, {3, 3, 100}, {3, 4, -1}, {3, 4, 100}, {16, 1, 1}, {-1, 1, 1}, {HIGH, 1, 1}, {LOW, 1, 1}};
        for (int[] w : wrong) {
            due("no such", x.set(w[0], w[1], w[2]), false);
        }
        due("NAILED", x.tile(3, 1), 1);
        due("AGE", x.tile(3, 3), 99);
        due("there", x.tile(3, 0), 1);
    }

    private void p8There() {
        GaleRoof x = new GaleRoof();
        due("is so", x.there(0, true), false);
        x.set(0, 4, 9);
        due("goes", x.there(0, false), true);
        due("GONE", x.tile(0, 0), 0);
        due("is so", x.there(0, false), false);
        due("lies nowhere", x.sweep(), 0);
        due("TILES", x.count(4), 15);
        due("again", x.there(0, true), true);
        due("as it was else", x.tile(0, 4), 9);
        due("no such", x.there(16, false), false);
        due("no such", x.there(-1, true), false);
    }

    private void p9To12Doors() {
        GaleRoof x = Check.told("roof 2 2 1; door a 1 3; door b 1 4 open; door c 2 5 open; door d 3 6;");
        int[][] want = {{1, 3, 0}, {1, 4, 1}, {2, 5, 1}, {3, 6, 0}};
        for (int d = 0; d < 4; d++) {
            for (int w = 0; w < 3; w++) {
                due("door", x.door(d, w), want[d][w]);
            }
        }
        due("no DOOR", x.door(4, 0), -1);
        due("no DOOR", x.door(-1, 0), -1);
        due("no what", x.door(0, 3), -1);
        due("no what", x.door(0, -1), -1);
        due("inlet", x.inlet(1, 0), 4);
        due("outlet", x.inlet(1, 1), 5);
        due("inlet", x.inlet(0, 0), 0);
        due("outlet", x.inlet(0, 1), 9);
        x.there(0, false);
        x.there(3, false);
        due("inlet with holes", x.inlet(1, 0), 6);
        due("outlet", x.inlet(1, 1), 5);
        due("inlet", x.inlet(2, 0), 5);
        due("outlet with holes", x.inlet(2, 1), 6);
        due("open", x.open(0, true), true);
        due("open again", x.open(0, true), true);
        due("inlet", x.inlet(1, 0), 9);
        due("shut", x.open(1, false), true);
        due("inlet", x.inlet(1, 0), 5);
        due("no DOOR", x.open(4, true), false);
        due("no DOOR", x.open(-1, true), false);
        due("no WAY", x.inlet(4, 0), -1);
        due("no WAY", x.inlet(-1, 0), -1);
        due("no what", x.inlet(0, 2), -1);
        due("no what", x.inlet(0, -1), -1);
        due("felt", x.felt(true), false);
        due("felt", x.felt(true), true);
        due("felt", x.felt(false), true);
        due("felt", x.felt(false), false);
    }

    private void p13Lift() {
        GaleRoof x = Check.told("roof 2 3 1; door a 1 3 open; door b 0 1 open; weigh 11; lap 6; nail 20; clip 7; years 4; moss 2; nailed if row == 0; clipped if col == 1;");
        // Tile 1: a border, NAILED and CLIPPED, below tile 4.
        due("SUCK", x.lift(1, 31, 1, 0), 31 + 15);
        due("PRESS", x.lift(1, 31, 1, 1), 31 * 2 / 10);
        due("HOLD", x.lift(1, 31, 1, 2), 11 + 6 + 16 + 7 + 2);
        due("LIFT", x.lift(1, 31, 1, 3), 46 + 6 - 42);
        due("PRESS below 0", x.lift(1, 31, 2, 1), -31 * 4 / 10);
        x.there(4, false);
        due("no LAP", x.lift(1, 31, 1, 2), 36);
        due("a hole presses", x.lift(1, 31, 1, 1), 9);
        due("of a GONE one", x.lift(4, 31, 1, 2), 11 + 7 + 2);
        x.set(1, 3, 30);
        due("an old nail", x.lift(1, 31, 1, 2), 20);
        x.felt(true);
        due("under FELT", x.lift(1, 31, 1, 1), 0);
        int[][] wrong = {{6, 0, 0, 0}, {-1, 0, 0, 0}, {0, 100, 0, 0}, {0, -1, 0, 0}, {0, 0, 4, 0}, {0, 0, -1, 0}, {0, 0, 0, 4}, {0, 0, 0, -1}};
        for (int[] w : wrong) {
            due("no such", x.lift(w[0], w[1], w[2], w[3]), LOW);
        }
        GaleRoof y = Check.told("roof 3 3 2; door a 2 3 open; door b 1 2 open; years 9; moss 8; nailed if third == 1;"
            + "suck = row * 1000 + col * 100 + third * 10 + edge; press = (bare * 100 + holes * 10 + inlet) * 10 + outlet; holds = (gust * 10 + way) * 1000 * 10 + age * 100 + grown * 10 + nails;");
        y.there(1, false);
        y.there(3, false);
        y.there(8, false);
        due("VARS of place", y.lift(4, 50, 2, 0), 1111 - 1);
        due("VARS of place", y.lift(7, 50, 2, 0), 2111);
        due("VARS of what is GONE", y.lift(4, 50, 2, 1), 2362);
        due("VARS of what is GONE", y.lift(5, 50, 0, 1), 1308);
        due("VARS of the TILE", y.lift(4, 50, 2, 2), 20 + 5 + 21 + 8 + 5020000 + 981);
        due("by 0", Check.told("suck = 5 + (gust / row);").lift(0, 50, 0, 0), 0);
        due("by 0 in brackets", Check.told("suck = 5 + (3 + (gust / row)) * 2;").lift(0, 50, 0, 0), 0);
        due("not by 0", Check.told("suck = 5 + gust / row;").lift(4, 50, 0, 0), 55);
        due("FELT on a law", felted("press = 9;").lift(4, 50, 0, 1), 0);
    }

    private static GaleRoof felted(String text) {
        GaleRoof x = Check.told(text);
        x.felt(true);
        return x;
    }

    private void p14Goes() {
        GaleRoof x = Check.told(CHAIN);
        due("first round", x.goes(4, 0, false), 11);
        due("first round", x.goes(0, 0, false), 16);
        due("any round", x.goes(0, 0, true), 11);
        x.there(0, false);
        due("GONE", x.goes(0, 0, true), -2);
        due("GONE", x.goes(0, 0, false), -2);
        due("no TILE", x.goes(6, 0, true), -1);
        due("no TILE", x.goes(-1, 0, true), -1);
        due("no WAY", x.goes(0, 4, false), -1);
        due("no WAY", x.goes(1, -1, false), -1);
        due("at none", Check.told("suck = 0;").goes(0, 1, true), -2);
        due("at 0", Check.told("suck = 99; weigh 0;").goes(0, 1, false), 0);
        due("at 99", Check.told("suck = gust; weigh 98; lap 0;").goes(0, 1, false), 99);
        due("not at 100", Check.told("suck = gust; weigh 99; lap 0;").goes(0, 1, false), -2);
        due("not at 100", Check.told("suck = gust; weigh 99; lap 0;").goes(0, 1, true), -2);
        due("less is more", Check.told("suck = 100 - gust; weigh 98; lap 0;").goes(0, 1, false), 0);
    }

    private void p15First() {
        GaleRoof x = Check.told(COLUMNS);
        due("first", x.first(0, false), 2);
        due("its GUST", x.first(0, true), 9);
        x.there(2, false);
        due("first", x.first(3, false), 5);
        x.there(5, false);
        due("first", x.first(3, false), 1);
        due("its GUST", x.first(3, true), 10);
        due("no WAY", x.first(4, true), -1);
        due("no WAY", x.first(-1, false), -1);
        due("none", Check.told("suck = 0;").first(1, false), -2);
        due("none", Check.told("suck = 0;").first(1, true), -2);
        due("not at 100", Check.told("suck = gust; weigh 99; lap 0;").first(0, true), -2);
        due("at 99", Check.told("suck = gust; weigh 98; lap 0;").first(0, true), 99);
        due("top row first", Check.told(CHAIN).first(1, false), 4);
    }

    private void p16To19Fall() {
        GaleRoof x = Check.told(CHAIN);
        due("how many", x.fall(10, 0, 0), 0);
        due("rounds", x.fall(10, 0, 1), 0);
        due("how many", x.fall(11, 0, 0), 6);
        due("rounds", x.fall(11, 0, 1), 3);
        due("rounds", x.fall(16, 0, 1), 1);
        int[] order = {4, 5, 2, 3, 0, 1};
        for (int i = 0; i < 6; i++) {
            due("fallen", x.fallen(11, 0, i), order[i]);
            due("round", x.round(order[i], 11, 0), i / 2);
            due("lands", x.lands(order[i], 11, 3), 1000 + 100 * (order[i] / 2) + 1);
        }
        due("not so many", x.fallen(11, 0, 6), -1);
        due("not so many", x.fallen(11, 0, -1), -1);
        due("not so many", x.fallen(10, 0, 0), -1);
        due("would not", x.round(0, 10, 0), -2);
        due("would not", x.lands(0, 10, 0), -2);
        x.there(5, false);
        due("GONE", x.round(5, 50, 0), -2);
        due("GONE", x.lands(5, 50, 0), -2);
        due("what is there", x.fall(50, 0, 0), 5);
        int[][] wrong = {{100, 0}, {-1, 0}, {0, 4}, {0, -1}};
        for (int[] w : wrong) {
            due("no such", x.fall(w[0], w[1], 0), -1);
            due("no such", x.fallen(w[0], w[1], 0), -1);
            due("no such", x.round(0, w[0], w[1]), -1);
            due("no such", x.lands(0, w[0], w[1]), -1);
            due("no such", x.blow(w[0], w[1]), -1);
            due("no such", x.worst(w[0], w[1]), -1);
            due("no such", x.doors(w[0], w[1]), -1);
            due("no such", x.neglect(w[0], w[1]), -100);
            due("no such", x.gust(w[0], w[1], 1), -1);
        }
        due("no what", x.fall(0, 0, 2), -1);
        due("no what", x.fall(0, 0, -1), -1);
        due("no TILE", x.round(6, 0, 0), -1);
        due("no TILE", x.round(-1, 0, 0), -1);
        due("no TILE", x.lands(6, 0, 0), -1);
        due("no TILE", x.lands(-1, 0, 0), -1);
        due("nothing happened", x.count(4), 5);
        GaleRoof y = Check.told(COLUMNS);
        int[] sides = {2, 3, 0, 1};
        for (int way = 0; way < 4; way++) {
            due("lands", y.lands(5, 20, way), 1000 * sides[way] + 100 * (way % 2 == 0 ? 2 : 1) + 5);
        }
        due("FAR at least 0", Check.told("far = 0 - 5;").lands(0, 50, 0), 2000);
        due("FAR at most 19", Check.told("far = 20;").lands(0, 50, 0), 2019);
        due("FAR without a law", new GaleRoof().lands(3, 99, 0), 2309);
        // Ahead of its round: two are GONE ahead of the second one.
        due("FAR by holes ahead", Check.told(CHAIN + "far = holes * 2 + bare;").lands(2, 11, 0), 2005);
        due("FAR by 0", Check.told("far = 7 + 1 / row;").lands(0, 50, 0), 2000);
    }

    private void p20To25Yard() {
        GaleRoof x = Check.told(COLUMNS);
        due("CAR", x.car(2205), 0);
        due("CAR", x.car(2205), 1);
        due("CAR", x.car(2204), 2);
        due("a calm", x.blow(8, 0), 0);
        due("BLOWN", x.blow(9, 0), 2);
        due("GONE", x.count(4), 4);
        due("GONE", x.tile(5, 0), 0);
        due("YARD", x.yard(2205), 1);
        due("YARD", x.yard(2204), 1);
        due("YARD", x.yard(2203), 0);
        due("hits", x.hits(0), 1);
        due("hits", x.hits(1), 1);
        due("hits", x.hits(2), 1);
        x.there(5, true);
        due("BLOWN", x.blow(9, 0), 1);
        due("YARD", x.yard(2205), 2);
        due("hits", x.hits(0), 2);
        due("what would be hits none", x.fall(50, 0, 0), 4);
        due("hits", x.hits(2), 1);
        due("sweep", x.sweep(), 3);
        due("YARD", x.yard(2205), 0);
        due("hits stay", x.hits(0), 2);
        due("sweep", x.sweep(), 0);
        for (int i = 3; i < 8; i++) {
            due("CAR", x.car(3519), i);
        }
        due("a 9th CAR", x.car(0), -1);
        due("no CAR", x.hits(8), -1);
        due("no CAR", x.hits(-1), -1);
        GaleRoof y = new GaleRoof();
        for (int cell : new int[] {-1, 20, 99, 600, 1020, 3600, 4000, 3520, LOW, HIGH, -1000}) {
            due("no CELL " + cell, y.yard(cell), -1);
            due("no CELL " + cell, y.car(cell), -1);
        }
        for (int cell : new int[] {0, 19, 500, 519, 3000, 3519, 1307}) {
            due("CELL " + cell, y.yard(cell), 0);
        }
        due("CARS", y.count(6), 0);
        due("worst", Check.told(COLUMNS).worst(20, 0), 2000);
        // By row 0 a TILE each at 0, 2 and 4, by row 1 at 1, 3 and 5.
        due("worst", Check.told(COLUMNS).worst(20, 1), 3000);
        due("worst", Check.told("roof 2 3 0; suck = 99; far = col / 2;").worst(20, 1), 3000);
        due("worst", Check.told("roof 2 3 0; suck = 99; far = (col + 1) / 2;").worst(20, 1), 3001);
        due("nothing goes", Check.told(COLUMNS).worst(8, 1), -2);
    }

    private void p26To28Harm() {
        GaleRoof x = Check.told(COLUMNS);
        due("HARM of none", x.harm(), 0);
        due("no weight", x.gust(9, 0, 0), -1);
        due("no weight", x.gust(9, 0, 10), -1);
        due("GUST", x.gust(9, 0, 9), 0);
        due("GUST", x.gust(10, 3, 1), 1);
        due("HARM", x.harm(), 9 * 2 + 4);
        due("GUST", x.gust(8, 3, 5), 2);
        due("GUST", x.gust(99, 3, 2), 3);
        due("HARM", x.harm(), 9 * 2 + 4 + 12);
        due("a 5th GUST", x.gust(1, 1, 1), -1);
        due("GUSTS", x.count(7), 4);
        due("nothing went", x.count(4), 6);
        due("calm", x.calm(), 4);
        due("calm", x.calm(), 0);
        due("HARM", x.harm(), 0);
        due("GUST", x.gust(0, 0, 1), 0);
    }

    private void p29To31DoorPlans() {
        // Only PRESS lifts: gust * (inlet - outlet) / 10 above 9.
        GaleRoof x = Check.told("roof 2 2 0; weigh 9; lap 0; suck = 0; door a 1 5 open; door b 2 5; door c 3 2 open;");
        // inlet 5, outlet 2 from WAY 1: 3 * gust / 10 is 10 or more from 34 on; each hole lets out one more.
        due("as it is", x.fall(33, 1, 0), 0);
        due("as it is", x.fall(34, 1, 0), 4);
        due("THE DOORS", x.doors(34, 1), 0);
        due("HELPS if shut", x.helps(0, 34, 1), 4);
        due("HELPS if open", x.helps(1, 34, 1), 4);
        due("HELPS not", x.helps(2, 34, 1), 0);
        due("HELPS not", x.helps(2, 20, 1), -4);
        due("EVER", x.ever(0, 1), 34);
        due("EVER", x.ever(1, 1), 34);
        due("EVER", x.ever(2, 1), -2);
        due("EVER at none", x.ever(0, 0), -2);
        due("EVER at 99", Check.told("suck = 0; press = gust * inlet; weigh 98; lap 0; door a 1 1 open;").ever(0, 1), 99);
        due("EVER not at 100", Check.told("suck = 0; press = gust * inlet; weigh 99; lap 0; door a 1 1 open;").ever(0, 1), -2);
        for (int[] w : new int[][] {{3, 0, 0}, {-1, 0, 0}, {0, 100, 0}, {0, -1, 0}, {0, 0, 4}, {0, 0, -1}}) {
            due("no such", x.helps(w[0], w[1], w[2]), -100);
        }
        due("no DOOR", x.ever(3, 0), -1);
        due("no DOOR", x.ever(-1, 0), -1);
        due("no WAY", x.ever(0, 4), -1);
        due("no WAY", x.ever(0, -1), -1);
        due("DOORS as they were", x.door(0, 2) + 2 * x.door(1, 2) + 4 * x.door(2, 2), 5);
        // Some must be open here: c alone is the fewest; of b and c alike the least bits.
        due("THE DOORS", Check.told("weigh 9; lap 0; press = 0; suck = (2 - outlet) * 99; door a 1 5; door b 2 1; door c 3 2;").doors(50, 1), 4);
        due("THE DOORS", Check.told("weigh 9; lap 0; press = 0; suck = (2 - outlet) * 99; door a 1 5; door b 2 2; door c 3 2;").doors(50, 1), 2);
        due("THE DOORS", Check.told("weigh 9; lap 0; press = 0; suck = (3 - outlet) * 99; door a 1 5; door b 2 2; door c 3 2;").doors(50, 1), 6);
        due("no DOORS", new GaleRoof().doors(50, 1), 0);
    }

    private void p32To35Nails() {
        // A nail holds 30; at GUST 11 all six go, one round.
        GaleRoof x = Check.told(COLUMNS);
        due("no GUSTS", x.nailing(2), 0);
        due("the fewest", x.nailingAt(2, 0), -1);
        due("no GUSTS", x.onebyone(12), 0);
        due("none chosen", x.onebyoneAt(12, 0), -1);
        x.gust(9, 0, 3);
        x.gust(11, 1, 1);
        due("HARM", x.harm(), 12);
        due("NAILING 0", x.nailing(0), 12);
        due("NAILING 0", x.nailingAt(0, 0), -1);
        due("NAILING 1", x.nailing(1), 8);
        due("NAILING 1", x.nailingAt(1, 0), 2);
        due("NAILING 1", x.nailingAt(1, 1), -1);
        due("NAILING 2", x.nailing(2), 4);
        due("NAILING 2", x.nailingAt(2, 0), 2);
        due("NAILING 2", x.nailingAt(2, 1), 5);
        due("NAILING 2", x.nailingAt(2, 2), -1);
        due("NAILING 2", x.nailingAt(2, -1), -1);
        int[] wrong = {-1, 3, LOW, HIGH};
        for (int n : wrong) {
            due("no n", x.nailing(n), -1);
            due("no n", x.nailingAt(n, 0), -1);
        }
        int[] steps = {2, 5, 0, 1, 3, 4};
        int[] harms = {12, 8, 4, 3, 2, 1, 0, 0};
        for (int n = 0; n < 8; n++) {
            due("ONE BY ONE", x.onebyone(n), harms[n]);
        }
        for (int i = 0; i < 6; i++) {
            due("ONE BY ONE", x.onebyoneAt(12, i), steps[i]);
        }
        due("as long as HARM becomes less", x.onebyoneAt(12, 6), -1);
        due("not so many", x.onebyoneAt(2, 2), -1);
        due("not so many", x.onebyoneAt(2, -1), -1);
        for (int n : new int[] {-1, 13, LOW, HIGH}) {
            due("no n", x.onebyone(n), -1);
            due("no n", x.onebyoneAt(n, 0), -1);
        }
        due("none is NAILED", x.tile(2, 1), 0);
        x.there(2, false);
        x.set(5, 1, 1);
        due("neither GONE nor NAILED ones", x.nailingAt(2, 0), 0);
        x.set(5, 3, 99);
        due("a NAILED one whose nail is old can't be nailed", x.nailingAt(2, 0), 0);
        x.set(5, 1, 0);
        due("NAILED with AGE 0", x.nailing(1), 4);
        due("NAILED with AGE 0", x.nailingAt(1, 0), 5);
        GaleRoof pair = Check.told("roof 2 3 0; weigh 0; lap 0; press = 0; suck = 1 - (row * 3 + col - 3) * (row * 3 + col - 4);");
        pair.gust(50, 0, 1);
        due("two side by side go", pair.harm(), 2);
        due("NAILING 2", pair.nailing(2), 0);
        due("NAILING 2", pair.nailingAt(2, 0) * 10 + pair.nailingAt(2, 1), 34);
        pair.there(3, false);
        due("the last of HARM", pair.nailing(1), 0);
        due("the last of HARM", pair.nailingAt(1, 0), 4);
        due("the fewest", pair.nailingAt(2, 1), -1);
        // If one of the two in the middle goes, all go, nailed or not: one nail alone is no help.
        GaleRoof both = Check.told("roof 2 2 0; weigh 0; lap 0; press = 0; suck = holes * 99 + 1 - (row + col - 1) * (row + col - 1);");
        both.gust(50, 0, 1);
        due("one is no help", both.nailing(1), 4);
        due("one is no help", both.nailingAt(1, 0), -1);
        due("two are", both.nailing(2), 0);
        due("two are", both.nailingAt(2, 0) * 10 + both.nailingAt(2, 1), 12);
        due("ONE BY ONE finds none", both.onebyone(12), 4);
        due("ONE BY ONE finds none", both.onebyoneAt(12, 0), -1);
        // 12 at most: of 36 that go 24 are left.
        GaleRoof many = Check.told("roof 6 6 0; weigh 0; lap 0; press = 0; suck = 1;");
        many.gust(0, 0, 1);
        due("ONE BY ONE 12", many.onebyone(12), 24);
        due("ONE BY ONE 12", many.onebyoneAt(12, 11), 11);
        due("ONE BY ONE 12", many.onebyoneAt(12, 12), -1);
        plansAreOfTheRoofAsItIs();
    }

    /** Whatever changes the ROOF between two calls has to be seen by the second. */
    private void plansAreOfTheRoofAsItIs() {
        GaleRoof x = Check.told(COLUMNS + "door a 0 1;");
        x.gust(11, 0, 1);
        x.hold(0);
        due("ahead", x.nailing(1) * 100 + x.onebyone(1), 505);
        x.set(0, 1, 1);
        due("set", x.nailing(1) * 100 + x.onebyone(1), 404);
        x.there(1, false);
        due("there", x.nailing(1) * 100 + x.onebyone(1), 303);
        x.restore(0);
        due("restore", x.nailing(1) * 100 + x.onebyone(1), 505);
        x.blow(9, 0);
        due("blow", x.nailing(1) * 100 + x.onebyone(1), 303);
        x.gust(11, 0, 1);
        due("gust", x.nailing(1) * 100 + x.onebyone(1), 606);
        x.calm();
        due("calm", x.nailing(1) * 100 + x.onebyone(1), 0);
        x.restore(0);
        due("restore", x.nailing(1) * 100 + x.onebyone(1), 505);
        Check.read(x, "");
        due("read", x.nailing(1) * 100 + x.onebyone(1), 0);
        GaleRoof y = Check.told("roof 2 2 0; weigh 9; lap 0; suck = 0; nail 99; door a 1 5 open;");
        y.gust(40, 1, 1);
        due("ahead", y.nailing(1) * 100 + y.onebyone(1), 303);
        y.open(0, false);
        due("open", y.nailing(1) * 100 + y.onebyone(1), 0);
        y.open(0, true);
        due("open", y.nailing(1) * 100 + y.onebyone(1), 303);
        y.felt(true);
        due("felt", y.nailing(1) * 100 + y.onebyone(1), 0);
    }

    private void p36And37Without() {
        GaleRoof x = Check.told(COLUMNS + "moss 1; nailed if col == 3;");
        x.gust(11, 0, 2);
        // With MOSS 1 each holds 11: cols 1 and 2 go at 11, all but for MOSS.
        due("THIRDS", x.without(0), 2 * 4);
        due("MOSSLESS", x.without(1), 2 * 6 - 2 * 4);
        due("FELTED", x.without(2), 0);
        x.gust(12, 0, 1);
        due("THIRDS", x.without(0), 2 * 4 + 4);
        due("no what", x.without(3), -1000000);
        due("no what", x.without(-1), -1000000);
        GaleRoof y = Check.told("roof 2 2 0; weigh 9; lap 0; suck = 0; door a 1 5 open;");
        y.gust(40, 1, 3);
        due("FELTED", y.without(2), -12);
        y.felt(true);
        due("FELTED under FELT too", y.without(2), -12);
        due("FELT as it was", y.felt(true), true);
        // Of the neglected the law is told by AGE; MOSS holds.
        GaleRoof z = Check.told("roof 2 2 0; weigh 10; lap 0; press = 0; suck = gust + age; years 5; moss 2; nailed if col == 1; nail 3;");
        due("NEGLECT", z.neglect(8, 0), 4);
        due("NEGLECT", z.neglect(12, 0), 2);
        due("NEGLECT", z.neglect(14, 0), 0);
        z.there(0, false);
        due("NEGLECT of less", z.neglect(14, 0), -1);
        due("as it was", z.tile(0, 0) + z.tile(0, 3) + z.tile(0, 4), 7);
    }

    private void p38Night() {
        GaleRoof x = Check.told(COLUMNS);
        due("none told ahead", x.night(1), -2);
        x.gust(9, 0, 1);
        x.gust(8, 0, 1);
        x.gust(10, 2, 1);
        due("NIGHT", x.night(1), 1);
        due("NIGHT", x.night(2), 1);
        due("NIGHT", x.night(3), 3);
        due("NIGHT", x.night(4), 3);
        due("never", x.night(5), -2);
        due("never", x.night(36), -2);
        due("no number", x.night(0), -1);
        due("no number", x.night(37), -1);
        due("no number", x.night(-1), -1);
        x.there(0, false);
        due("already", x.night(1), 0);
        due("NIGHT", x.night(3), 1);
        due("the ROOF stays", x.count(4), 5);
        // Each GUST takes one more: only what is GONE ahead of it makes the next one go.
        GaleRoof y = Check.told("roof 6 6 0; weigh 0; lap 0; press = 0; suck = 1 - (6 * row + col - gust) * (6 * row + col - gust);");
        y.gust(35, 0, 1);
        y.gust(0, 0, 1);
        y.gust(7, 0, 1);
        due("round and round", y.night(3), 3);
        due("80 at most", y.night(4), -2);
        // From WAY 0 all go as soon as there is a hole; from WAY 1 the first TILE goes.
        GaleRoof z = Check.told("roof 2 2 0; weigh 0; lap 0; press = 0; suck = (1 - way) * holes + way * (1 - row - col);");
        z.gust(5, 0, 1);
        z.gust(5, 1, 1);
        due("the second takes one", z.night(1), 2);
        due("the first, again, takes all", z.night(2), 3);
        due("the first, again, takes all", z.night(4), 3);
        eightyAtMost();
    }

    /** One TILE after the other, each only from the WAY that its third tells: three in eight GUSTS. */
    private void eightyAtMost() {
        String law = "roof 6 6 0; weigh 0; lap 0; press = 0; suck = 1 - (holes - row * 6 - col) * (holes - row * 6 - col) - (way - third) * (way - third);";
        GaleRoof x = Check.told(law);
        x.there(0, false);
        for (int way : new int[] {3, 2, 1, 0}) {
            x.gust(50, way, 1);
        }
        due("the 30th behind 78", x.night(30), 78);
        due("the 31st behind 80", x.night(31), 80);
        due("the 32nd not in 80", x.night(32), -2);
        GaleRoof y = Check.told(law);
        for (int way : new int[] {2, 3, 1, 0}) {
            y.gust(50, way, 1);
        }
        due("the 29th behind 79", y.night(29), 79);
        due("the 30th would be behind 81", y.night(30), -2);
    }

    private void p39To41Years() {
        GaleRoof x = Check.told("roof 2 2 0; weigh 99; suck = 0; press = 0;");
        due("none goes", x.years(5, 60), 0);
        due("none goes", x.lasts(5), -2);
        x.there(0, false);
        due("GONE ahead", x.years(5, 0), 1);
        due("GONE ahead", x.years(5, 60), 1);
        due("none of those that are there", x.lasts(5), -2);
        due("odds", x.odds(5, 50, 60, 1), 50);
        due("odds", x.odds(5, 50, 60, 2), 0);
        due("odds", x.odds(5, 1, 0, 0), 1);
        due("odds", x.odds(5, 50, 60, 36), 0);
        due("odds of all", Check.told("roof 6 6 0; weigh 0; lap 0; suck = 1; press = 0;").odds(-3, 7, 1, 36), 7);
        due("no k", x.years(5, 61), -1);
        due("no k", x.years(5, -1), -1);
        int[][] wrong = {{0, 0, 0}, {51, 0, 0}, {1, 61, 0}, {1, -1, 0}, {1, 0, 37}, {1, 0, -1}, {HIGH, 0, 0}};
        for (int[] w : wrong) {
            due("no such", x.odds(5, w[0], w[1], w[2]), -1);
        }
        lotsAreTheDocuments();
        // AGE is one more ahead of the GUST, 99 at most: with 3 at first all go in YEAR 2, by AGE above 5.
        GaleRoof y = Check.told("roof 2 2 0; weigh 5; lap 0; press = 0; suck = age; years 3;");
        due("YEARS", y.years(1, 2), 0);
        due("YEARS", y.years(1, 3), 4);
        due("lasts", y.lasts(1), 2);
        due("odds", y.odds(HIGH, 50, 3, 4), 50);
        due("in the last YEAR", Check.told("weigh 59; lap 0; press = 0; suck = age;").lasts(1), 59);
        due("not in YEAR 60", Check.told("weigh 60; lap 0; press = 0; suck = age;").lasts(1), -2);
        due("behind 60 YEARS", Check.told("weigh 59; lap 0; press = 0; suck = age;").years(1, 60), 16);
        due("not behind 59", Check.told("weigh 59; lap 0; press = 0; suck = age;").years(1, 59), 0);
        due("AGE 99 at most", Check.told("weigh 99; lap 0; press = 0; suck = age; years 99;").lasts(9), -2);
        due("the ROOF stays", y.tile(0, 3) + y.count(4), 7);
    }

    /** By hand, once more from the words: tile by tile that GUST and WAY which the LOT tells. */
    private void lotsAreTheDocuments() {
        for (int seed : new int[] {0, 1, 5, -7, HIGH, LOW}) {
            int gust = Check.lot(100, seed, 0);
            int way = Check.lot(4, seed, 1);
            GaleRoof x = Check.told("weigh 0; lap 0; press = 0; suck = 1 - (gust - " + gust + ") * (gust - " + gust + ") - (way - " + way + ") * (way - " + way + ");");
            due("LOTS of " + seed, x.years(seed, 1), 16);
            due("LOTS of " + seed, x.lasts(seed), 0);
        }
        int[] gusts = {2, 74, 81, 67, 36};
        int[] ways = {1, 3, 2, 2, 3};
        for (int y = 0; y < gusts.length; y++) {
            due("LOT 100 of 5", Check.lot(100, 5, 2 * y), gusts[y]);
            due("LOT 4 of 5", Check.lot(4, 5, 2 * y + 1), ways[y]);
        }
        due("LOT 100 of -7", Check.lot(100, -7, 0), 78);
    }

    private void p42YardTells() {
        GaleRoof x = Check.told(COLUMNS);
        int[] empty = {0, 0, 0, -2};
        for (int i = 0; i < 4; i++) {
            due("an empty YARD", x.yardTells(i), empty[i]);
        }
        x.blow(10, 3);
        int[] blown = {10, 3, 0, 1};
        for (int i = 0; i < 4; i++) {
            due("FROM THE YARD", x.yardTells(i), blown[i]);
        }
        due("no what", x.yardTells(4), -1);
        due("no what", x.yardTells(-1), -1);
        x.there(5, true);
        x.blow(9, 3);
        due("one too many", x.yardTells(0), 10);
        due("one too many", x.yardTells(2), 1);
        x.sweep();
        due("swept", x.yardTells(0), 0);
        x.there(2, true);
        x.there(5, true);
        x.blow(9, 0);
        due("the whole ROOF went", x.yardTells(3), 2);
        due("the whole ROOF went", x.yardTells(0) * 10 + x.yardTells(1), 90);
        x.set(2, 1, 1);
        due("but as it is else", x.yardTells(2), 1);
        due("but as it is else", x.yardTells(3), 5);
        GaleRoof y = Check.told(COLUMNS);
        y.there(5, false);
        y.blow(10, 0);
        due("one that lies there not", y.yardTells(2), 1);
        due("one that lies there not", y.yardTells(0), 10);
        GaleRoof z = Check.told("roof 2 2 0; weigh 98; lap 0; press = 0; suck = gust + way / 3;");
        z.blow(99, 2);
        due("the last GUST", z.yardTells(0) * 10 + z.yardTells(1), 992);
    }

    private void p43To48Village() {
        GaleRoof x = Check.told("warn if age < 10 and way == 1; warn if nails / (age - 50) == 3;");
        due("warned", x.warned(9, 1, 0), 1);
        due("warned", x.warned(10, 1, 0), 0);
        due("warned", x.warned(9, 2, 0), 0);
        due("warned", x.warned(52, 2, 7), 1);
        due("warned by 0", x.warned(50, 2, 7), 0);
        int[][] wrong = {{-1, 0, 0}, {100, 0, 0}, {0, 4, 0}, {0, -1, 0}, {0, 0, 10}, {0, 0, -1}};
        for (int[] w : wrong) {
            due("no HOUSE", x.warned(w[0], w[1], w[2]), -1);
            due("no HOUSE", x.house(w[0], w[1], w[2], 0), -1);
        }
        due("no HOUSE", x.house(0, 0, 0, 100), -1);
        due("no HOUSE", x.house(0, 0, 0, -1), -1);
        due("no FACT", x.annul(0), -1);
        due("other VARS are 0", Check.told("warn if gust + row + edge + holes == 0;").warned(5, 1, 1), 1);
        int[][] houses = {{5, 1, 0, 7}, {9, 1, 9, 0}, {52, 0, 6, 2}, {99, 3, 0, 99}, {0, 0, 0, 0}, {8, 1, 1, 3}};
        for (int i = 0; i < houses.length; i++) {
            due("HOUSE", x.house(houses[i][0], houses[i][1], houses[i][2], houses[i][3]), i);
        }
        int[] known = {6, 4, 4, 3};
        for (int i = 0; i < 4; i++) {
            due("village", x.village(6, 1, i), known[i]);
        }
        // 4 of 6, by which 3 or 4 of the 4 are taken: 4 * 2 + 1.
        due("ways", x.villageWays(6, 1, true), 9);
        due("ways", x.villageWays(6, 1, false), 15);
        // Lost by age: 0 no, 5 yes, 8 yes, 9 no, 52 yes, 99 yes: from 1 or 10 on 5 are right.
        due("line", x.line(6, 1, false), 1);
        due("line", x.line(6, 1, true), 5);
        due("line of c 99", x.line(6, 99, false), 53);
        due("line of c 99", x.line(6, 99, true), 6);
        due("all lost 0 or more", x.line(6, 0, false) * 100 + x.line(6, 0, true), 6);
        due("none lost", x.line(2, 99, false) * 100 + x.line(2, 99, true), 1002);
        due("VOID", x.annul(0), 6);
        due("VOID twice", x.annul(0), 7);
        due("no VOID of a VOID", x.annul(6), -1);
        due("no FACT", x.annul(8), -1);
        due("no FACT", x.annul(-1), -1);
        due("KNOWN by 6", x.village(6, 1, 0), 6);
        due("KNOWN by 7", x.village(7, 1, 0), 5);
        due("KNOWN by 8", x.village(8, 1, 3), 2);
        due("KNOWN by 0", x.village(0, 1, 0), 0);
        due("ways of none", x.villageWays(0, 1, true), 1);
        int[][] no = {{9, 1}, {-1, 1}, {0, 100}, {0, -1}};
        for (int[] w : no) {
            due("no such", x.village(w[0], w[1], 0), -1);
            due("no such", x.villageWays(w[0], w[1], true), -1);
            due("no such", x.line(w[0], w[1], true), -1);
        }
        due("no what", x.village(0, 0, 4), -1);
        due("no what", x.village(0, 0, -1), -1);
        GaleRoof old = new GaleRoof();
        old.house(99, 0, 0, 0);
        due("older than all", old.line(1, 1, false), 100);
        due("older than all", old.line(1, 1, true), 1);
        GaleRoof full = Check.told("warn if age < 30;");
        for (int i = 0; i < 60; i++) {
            due("HOUSE", full.house(i, 0, 0, i % 2), i);
        }
        due("a 61st", full.house(0, 0, 0, 0), -1);
        due("a 61st", full.annul(0), -1);
        due("ways of 60", full.villageWays(60, 1, false), 118264581564861424L);
        due("ways of 60", full.villageWays(60, 0, true), 118264581564861424L);
        due("FACTS stay", Check.read(full, "") + full.count(5), 60);
    }

    private void p49To50Slots() {
        GaleRoof x = Check.told(COLUMNS + "door a 0 3;");
        x.car(2205);
        x.gust(20, 0, 1);
        x.open(0, true);
        x.felt(true);
        x.set(0, 4, 50);
        x.blow(9, 0);
        due("hold", x.hold(2), true);
        due("no SLOT", x.hold(3), false);
        due("no SLOT", x.hold(-1), false);
        due("SLOTS", x.count(9), 1);
        x.car(2204);
        x.calm();
        x.open(0, false);
        x.felt(false);
        x.set(0, 4, 0);
        x.there(5, true);
        x.blow(99, 0);
        x.house(1, 1, 1, 1);
        due("nothing is held", x.restore(0), false);
        due("no SLOT", x.restore(3), false);
        due("no SLOT", x.restore(-1), false);
        for (int times = 0; times < 2; times++) {
            due("restore", x.restore(2), true);
            due("CARS", x.count(6) * 10 + x.hits(0), 11);
            due("GUSTS", x.count(7), 1);
            due("DOOR", x.door(0, 2), 1);
            due("FELT", x.felt(false), true);
            due("MOSS", x.tile(0, 4), 50);
            due("TILES", x.count(4), 4);
            due("FACTS are no part of it", x.count(5), 1);
            due("YARD", x.sweep(), 2);
        }
        x.hold(2);
        x.hold(0);
        due("SLOTS", x.count(9), 2);
        slotsHoldWhatStood();
        Check.read(x, "lap 100;");
        due("SLOTS behind a FAULT", x.count(9), 2);
        x.read();
        due("SLOTS behind a text", x.count(9), 0);
    }

    /** Each SLOT by itself: what is told anew in the same place comes back as it was held. */
    private void slotsHoldWhatStood() {
        GaleRoof x = Check.told(COLUMNS);
        x.hold(0);
        x.car(2204);
        x.gust(10, 0, 2);
        x.hold(1);
        x.restore(0);
        due("nothing yet", x.count(6) + x.count(7), 0);
        x.car(1000);
        x.gust(11, 3, 9);
        x.hold(0);
        due("HARM", x.harm(), 54);
        x.restore(1);
        due("GUST and weight", x.harm(), 8);
        due("BLOWN", x.blow(9, 0), 2);
        due("the CAR's CELL", x.hits(0), 1);
        x.restore(0);
        due("HARM", x.harm(), 54);
        due("hits", x.hits(0), 0);
        GaleRoof y = Check.told("roof 2 2 0; weigh 0; lap 0; press = 0; suck = way;");
        y.gust(9, 1, 1);
        y.hold(0);
        y.calm();
        y.gust(9, 0, 1);
        due("from WAY 0 none goes", y.harm(), 0);
        y.restore(0);
        due("WAY", y.harm(), 4);
    }

    private void p51Count() {
        GaleRoof x = Check.told("roof 2 6 3; weigh 1; lap 2; nail 3; clip 4; nailed if 1 == 1; nailed if 1 == 2; clipped if 1 == 1; warn if 1 == 1; warn if 1 == 1; warn if 1 == 1; door a 0 1; door b 0 1;");
        Check.feed(x, "abc");
        x.there(0, false);
        x.house(0, 0, 0, 0);
        x.car(0);
        x.gust(1, 1, 1);
        x.gust(1, 1, 1);
        x.hold(0);
        int[] want = {2, 6, 3, 2, 11, 1, 1, 2, 3, 1, 2, 1, 3, 1, 2, 3, 4};
        for (int i = 0; i < want.length; i++) {
            due("count " + i, x.count(i), want[i]);
        }
        for (int what : new int[] {17, -1, 18, LOW, HIGH}) {
            due("count " + what, x.count(what), -1);
        }
    }

    public static void main(String[] args) {
        PromisesTest test = new PromisesTest();
        test.p1NewObject();
        test.p2Feed();
        test.p3Back();
        test.p4Read();
        test.p5Place();
        test.p6Tile();
        test.p7Set();
        test.p8There();
        test.p9To12Doors();
        test.p13Lift();
        test.p14Goes();
        test.p15First();
        test.p16To19Fall();
        test.p20To25Yard();
        test.p26To28Harm();
        test.p29To31DoorPlans();
        test.p32To35Nails();
        test.p36And37Without();
        test.p38Night();
        test.p39To41Years();
        test.p42YardTells();
        test.p43To48Village();
        test.p49To50Slots();
        test.p51Count();
        test.check.end();
    }
}
