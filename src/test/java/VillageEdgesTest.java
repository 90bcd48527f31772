/** Promises 43 to 51 and what they lean on, edge by edge: FACTS, what is KNOWN, WARNED, THE LINE, SLOTS, counts. */
public final class VillageEdgesTest {
    private static final int LOW = Integer.MIN_VALUE;
    private static final int HIGH = Integer.MAX_VALUE;

    private final Check check = new Check("VillageEdgesTest");

    private void due(String call, long got, long want) {
        check.due(call, got, want);
    }

    private void due(String call, boolean got, boolean want) {
        check.due(call, got, want);
    }

    /** HOUSES by age and by what they lost, from WAY 0 and without nails. */
    private static GaleRoof village(String text, int[]... agesAndLosses) {
        GaleRoof x = Check.told(text);
        for (int[] h : agesAndLosses) {
            x.house(h[0], 0, 0, h[1]);
        }
        return x;
    }

    // ---- promises 43 and 44

    private void sixtyFacts() {
        GaleRoof x = new GaleRoof();
        due("no FACT yet: no VOID", x.annul(0), -1);
        due("the least HOUSE", x.house(0, 0, 0, 0), 0);
        due("the greatest HOUSE", x.house(99, 3, 9, 99), 1);
        due("the next FACT is none", x.annul(2), -1);
        due("below 0", x.annul(-1), -1);
        due("refused", x.house(100, 0, 0, 0), -1);
        due("FACTS", x.count(5), 2);
        due("a VOID", x.annul(1), 2);
        due("a VOID of it", x.annul(2), -1);
        due("of itself", x.annul(3), -1);
        due("a second VOID of the same", x.annul(1), 3);
        due("a HOUSE again", x.house(1, 1, 1, 1), 4);
        for (int i = 5; i < 59; i++) {
            due("a HOUSE", x.house(50, 0, 0, 0), i);
        }
        due("the 60th FACT is a VOID", x.annul(58), 59);
        due("60 are there", x.count(5), 60);
        due("no HOUSE more", x.house(1, 1, 1, 1), -1);
        due("no VOID more", x.annul(0), -1);
        due("60 and no such ones", x.house(-1, 1, 1, 1), -1);
        due("60 and a VOID", x.annul(59), -1);
        due("still 60", x.count(5), 60);
        due("KNOWN by 60", x.village(60, 0, 0), 60 - 3 - 2);
        due("KNOWN by 59", x.village(59, 0, 0), 59 - 2 - 1);
        due("by 61", x.village(61, 0, 0), -1);
        GaleRoof y = new GaleRoof();
        for (int i = 0; i < 60; i++) {
            due("a HOUSE", y.house(i, 0, 0, 0), i);
        }
        due("the 60th is a HOUSE", y.village(60, 0, 0), 60);
        due("no 61st", y.house(0, 0, 0, 0), -1);
        due("no VOID as the 61st", y.annul(59), -1);
    }

    private void knownByN() {
        GaleRoof x = village("", new int[][] {{10, 5}, {20, 5}, {30, 5}});
        due("VOID of the first", x.annul(0), 3);
        due("VOID of the last", x.annul(2), 4);
        x.house(40, 0, 0, 5);
        due("VOID of one behind a VOID", x.annul(5), 6);
        int[] m = {0, 1, 2, 3, 2, 1, 2, 1};
        for (int n = 0; n < m.length; n++) {
            due("KNOWN by " + n, x.village(n, 0, 0), m[n]);
            due("all lost 0 or more", x.village(n, 0, 2), m[n]);
            due("all lost 5 or more", x.village(n, 5, 2), m[n]);
            due("none lost 6", x.village(n, 6, 2), 0);
        }
        due("by more than there are", x.village(8, 0, 0), -1);
        due("by fewer than none", x.village(-1, 0, 0), -1);
        for (int n : new int[] {8, -1, HIGH, LOW}) {
            due("no such n", x.villageWays(n, 0, false), -1);
            due("no such n", x.line(n, 0, false), -1);
            due("no such n", x.line(n, 0, true), -1);
        }
        due("of none no what", x.village(0, 0, 4), -1);
        due("of none no what", x.village(0, 0, -1), -1);
        due("of none no c", x.village(0, 100, 0), -1);
        due("of none no c", x.village(0, -1, 0), -1);
        due("the last c", x.village(3, 99, 2), 0);
        GaleRoof y = village("", new int[][] {{10, 98}, {20, 99}, {30, 0}, {40, 1}});
        int[][] hurt = {{0, 4}, {1, 3}, {2, 2}, {98, 2}, {99, 1}};
        for (int[] h : hurt) {
            due("lost " + h[0] + " or more", y.village(4, h[0], 2), h[1]);
        }
    }

    // ---- promise 45

    private void warnedAtItsEnds() {
        due("no RULE", new GaleRoof().warned(0, 0, 0), 0);
        due("no RULE, no HOUSE", new GaleRoof().warned(100, 0, 0), -1);
        GaleRoof x = Check.told("warn if age == 99 and way == 3 and nails == 9; warn if age + way + nails == 0;");
        due("the greatest", x.warned(99, 3, 9), 1);
        due("the least", x.warned(0, 0, 0), 1);
        due("one less", x.warned(98, 3, 9) + x.warned(99, 2, 9) + x.warned(99, 3, 8), 0);
        due("one more", x.warned(1, 0, 0) + x.warned(0, 1, 0) + x.warned(0, 0, 1), 0);
        for (String other : new String[] {"row", "col", "third", "edge", "bare", "holes", "inlet", "outlet", "gust", "grown"}) {
            GaleRoof y = Check.told("moss 9; door a 0 9 open; door b 2 9 open; suck = 0; warn if " + other + " != 0; nailed if 1 == 1; clipped if 1 == 1;");
            y.there(15, false);
            y.there(0, false);
            // What a GUST from here or there left behind must not be seen.
            y.lift(14, 99, 3, 3);
            due(other + " is 0", y.warned(99, 3, 9), 0);
            y.fall(99, 1, 0);
            due(other + " is 0", y.warned(99, 3, 9), 0);
            y.inlet(0, 0);
            y.house(5, 1, 5, 5);
            due(other + " is 0 for a FACT", y.village(1, 0, 1), 0);
        }
        GaleRoof z = Check.told("warn if 1 / age == 1; warn if not 1 / nails == 1;");
        due("by 0 it holds not, its not does", z.warned(0, 0, 0), 1);
        due("1", z.warned(1, 0, 1), 1);
        due("neither", z.warned(2, 0, 1), 0);
        GaleRoof six = Check.told("warn if age == 1; warn if age == 2; warn if age == 3; warn if age == 4; warn if age == 5; warn if age == 6;");
        for (int age = 0; age < 8; age++) {
            due("some of six", six.warned(age, 0, 0), age >= 1 && age <= 6 ? 1 : 0);
        }
        due("no RULE of another sort", Check.told("nailed if 1 == 1; clipped if 1 == 1;").warned(0, 0, 0), 0);
        // The age, the WAY and the nails of a FACT, at their ends.
        GaleRoof facts = Check.told("warn if age == 99 and way == 3 and nails == 9; warn if age + way + nails == 0;");
        int[][] houses = {{99, 3, 9}, {0, 0, 0}, {98, 3, 9}, {99, 2, 9}, {99, 3, 8}, {1, 0, 0}, {0, 1, 0}, {0, 0, 1}};
        int[] warned = {0, 1, 2, 2, 2, 2, 2, 2, 2};
        for (int n = 0; n < houses.length; n++) {
            facts.house(houses[n][0], houses[n][1], houses[n][2], 5);
            due("WARNED of " + (n + 1), facts.village(n + 1, 5, 1), warned[n + 1]);
            due("WARNED and hurt of " + (n + 1), facts.village(n + 1, 5, 3), warned[n + 1]);
            due("WARNED and hurt more of " + (n + 1), facts.village(n + 1, 6, 3), 0);
        }
        // FACTS are WARNED by the RULES as they are told now.
        GaleRoof now = village("warn if age < 10;", new int[][] {{9, 0}, {10, 0}});
        due("u", now.village(2, 0, 1), 1);
        Check.read(now, "warn if age < 11;");
        due("u by the next text", now.village(2, 0, 1), 2);
        now.read();
        due("u without RULES", now.village(2, 0, 1), 0);
    }

    // ---- promises 46 and 47

    private void ways() {
        GaleRoof none = new GaleRoof();
        due("of none", none.villageWays(0, 0, true), 1);
        due("of none", none.villageWays(0, 0, false), 1);
        due("more than none", none.villageWays(1, 0, false), -1);
        // m 5, u 2, t 2; by a 0, 1, 2.
        long[] more = {10, 7, 1};
        for (int a = 0; a <= 2; a++) {
            GaleRoof x = Check.told("warn if age < 2;");
            for (int i = 0; i < 5; i++) {
                boolean hurts = i >= 2 - a && i < 4 - a;
                x.house(i, 0, 0, hurts ? 1 : 0);
            }
            due("m", x.village(5, 1, 0), 5);
            due("u", x.village(5, 1, 1), 2);
            due("t", x.village(5, 1, 2), 2);
            due("a", x.village(5, 1, 3), a);
            due("all ways", x.villageWays(5, 1, false), 10);
            due(a + " or more", x.villageWays(5, 1, true), more[a]);
        }
        // All are hurt, or none: then all ways are as good.
        GaleRoof y = village("warn if age < 3;", new int[][] {{1, 1}, {2, 1}, {3, 1}, {4, 1}});
        due("a as great as u", y.villageWays(4, 0, true) * 100 + y.villageWays(4, 0, false), 606);
        due("t 0", y.villageWays(4, 99, true) * 100 + y.villageWays(4, 99, false), 606);
        due("u 0", village("", new int[][] {{1, 1}, {2, 1}}).villageWays(2, 1, true), 1);
        due("u is m", village("warn if 1 == 1;", new int[][] {{1, 1}, {2, 0}}).villageWays(2, 1, true), 1);
        // The most: 30 of 60, more than an int holds.
        GaleRoof most = Check.told("warn if age < 30;");
        for (int i = 0; i < 60; i++) {
            most.house(i, 0, 0, i >= 30 ? 1 : 0);
        }
        due("t 30, u 30, a 0", most.village(60, 1, 3), 0);
        due("all of 60", most.villageWays(60, 1, false), 118264581564861424L);
        due("0 or more of 60", most.villageWays(60, 1, true), 118264581564861424L);
        GaleRoof right = Check.told("warn if age < 30;");
        for (int i = 0; i < 60; i++) {
            right.house(i, 0, 0, i < 30 ? 1 : 0);
        }
        due("just the right ones", right.villageWays(60, 1, true), 1);
        GaleRoof one = Check.told("warn if age < 30;");
        for (int i = 0; i < 60; i++) {
            one.house(i, 0, 0, i < 29 || i == 59 ? 1 : 0);
        }
        due("29 or 30 of 30", one.villageWays(60, 1, true), 901);
        due("c -1", one.villageWays(60, -1, true), -1);
        due("c 100", one.villageWays(60, 100, true), -1);
        due("n 61", one.villageWays(61, 0, true), -1);
    }

    // ---- promise 48

    private void lines() {
        GaleRoof none = new GaleRoof();
        due("of none the least age", none.line(0, 0, false), 0);
        due("of none none is right", none.line(0, 0, true), 0);
        int[][][] villages = {
            {{99, 0}}, {{99, 1}}, {{0, 0}}, {{0, 1}}, {{50, 0}}, {{50, 1}},
            {{10, 0}, {10, 1}}, {{10, 0}, {20, 1}}, {{20, 0}, {10, 1}}, {{98, 0}, {99, 1}}, {{99, 0}, {98, 0}, {0, 0}},
        };
        int[] ages = {100, 0, 1, 0, 51, 0, 0, 11, 0, 99, 100};
        int[] right = {1, 1, 1, 1, 1, 1, 1, 2, 1, 2, 3};
        for (int i = 0; i < villages.length; i++) {
            GaleRoof x = village("", villages[i]);
            due("THE LINE of village " + i, x.line(villages[i].length, 1, false), ages[i]);
            due("told right of village " + i, x.line(villages[i].length, 1, true), right[i]);
        }
        GaleRoof x = village("", new int[][] {{30, 4}, {40, 5}, {50, 6}});
        due("c 0: all lost so many", x.line(3, 0, false) * 10 + x.line(3, 0, true), 3);
        due("c 4", x.line(3, 4, false) * 10 + x.line(3, 4, true), 3);
        due("c 5", x.line(3, 5, false) * 10 + x.line(3, 5, true), 313);
        due("c 6", x.line(3, 6, false) * 10 + x.line(3, 6, true), 413);
        due("c 7: none", x.line(3, 7, false) * 10 + x.line(3, 7, true), 513);
        due("c 99: none", x.line(3, 99, false) * 10 + x.line(3, 99, true), 513);
        due("c 100", x.line(3, 100, false), -1);
        due("c -1", x.line(3, -1, true), -1);
        due("KNOWN by 2", x.line(2, 6, false) * 10 + x.line(2, 6, true), 412);
        x.annul(2);
        due("a VOID is no HOUSE", x.line(4, 6, false) * 10 + x.line(4, 6, true), 412);
        due("it was KNOWN by 3", x.line(3, 6, false) * 10 + x.line(3, 6, true), 413);
    }

    // ---- promises 49 and 50

    private void slotsAtTheirEnds() {
        GaleRoof x = Check.told("roof 2 2 0; weigh 0; lap 0; press = 0; suck = 1; door a 2 5;");
        for (int slot = 0; slot < 3; slot++) {
            due("nothing is held", x.restore(slot), false);
        }
        due("no SLOT", x.hold(3), false);
        due("no SLOT", x.hold(-1), false);
        due("none holds", x.count(9), 0);
        // A SLOT each with its own scene.
        for (int slot = 2; slot >= 0; slot--) {
            x.set(0, 3, 10 + slot);
            x.car(2000 + slot);
            x.gust(slot, 0, 1 + slot);
            x.open(0, slot == 1);
            x.felt(slot == 1);
            due("held", x.hold(slot), true);
            due("SLOTS", x.count(9), 3 - slot);
        }
        for (int slot = 0; slot < 3; slot++) {
            due("restored", x.restore(slot), true);
            due("AGE", x.tile(0, 3), 10 + slot);
            due("CARS", x.count(6), 3 - slot);
            due("GUSTS", x.count(7), 3 - slot);
            due("HARM by their weights", x.harm(), slot == 2 ? 12 : slot == 1 ? 20 : 24);
            due("DOOR", x.door(0, 2), slot == 1 ? 1 : 0);
            due("FELT", x.felt(slot != 1), slot == 1);
            due("SLOTS", x.count(9), 3);
        }
        due("held over again", x.hold(0), true);
        due("not one more", x.count(9), 3);
        x.restore(1);
        x.restore(0);
        due("what was held last", x.tile(0, 3), 12);
        due("the other stays", x.restore(1), true);
        due("as it was", x.tile(0, 3), 11);
        due("no SLOT", x.restore(3), false);
        due("no SLOT", x.restore(-1), false);
        due("no SLOT", x.restore(HIGH) || x.restore(LOW) || x.hold(HIGH) || x.hold(LOW), false);
        due("nothing happened", x.tile(0, 3), 11);
    }

    /** The CELLS of CARS, the GUSTS, WAYS and weights told ahead, told otherwise in the same places meanwhile. */
    private void slotsHoldEachNumber() {
        GaleRoof x = Check.told("roof 2 2 0; weigh 0; lap 0; press = 0; far = 0; suck = 1 - (gust - 50) * (gust - 50) - (way - 2) * (way - 2);");
        for (int i = 0; i < 8; i++) {
            x.car(i == 7 ? 100 : 0);
        }
        for (int i = 0; i < 4; i++) {
            x.gust(50, 2, 1 + i);
        }
        due("HARM", x.harm(), 40);
        x.hold(0);
        Check.feed(x, "x");
        for (int change = 0; change < 3; change++) {
            x.calm();
            for (int i = 0; i < 4; i++) {
                x.gust(change == 0 ? 51 : 50, change == 1 ? 1 : 2, change == 2 ? 9 : 1 + i);
            }
            due("HARM of others", x.harm(), change == 2 ? 144 : 0);
            due("a ninth CAR", x.car(0), -1);
            x.restore(0);
            due("HARM as it was", x.harm(), 40);
        }
        GaleRoof y = Check.told("roof 2 2 0; weigh 0; lap 0; press = 0; far = 0; suck = 1;");
        y.hold(1);
        y.car(0);
        y.car(100);
        y.hold(0);
        y.restore(1);
        due("no CARS", y.count(6), 0);
        y.car(2000);
        y.car(2100);
        y.hold(1);
        y.restore(0);
        y.blow(0, 2);
        due("CARS on their own CELLS", y.hits(0) * 10 + y.hits(1), 22);
        y.restore(1);
        y.blow(0, 2);
        due("CARS on other CELLS", y.hits(0) * 10 + y.hits(1), 0);
        y.restore(1);
        y.blow(0, 0);
        due("CARS on other CELLS, hit", y.hits(0) * 10 + y.hits(1), 22);
        y.restore(1);
        due("hits as they were", y.hits(0) * 10 + y.hits(1), 0);
    }

    private void slotsHoldAllOfIt() {
        GaleRoof x = Check.told("roof 2 2 0; weigh 0; lap 0; press = 0; suck = 1; far = 0; door a 2 5; door b 1 4 open;");
        x.car(2000);
        x.car(2100);
        x.gust(3, 2, 4);
        x.blow(5, 0);
        x.there(0, true);
        x.set(0, 1, 1);
        x.set(1, 2, 1);
        x.set(2, 3, 7);
        x.set(3, 4, 8);
        x.open(0, true);
        x.open(1, false);
        x.felt(true);
        x.hold(1);
        // Everything else.
        x.there(3, true);
        x.there(0, false);
        x.set(0, 1, 0);
        x.set(1, 2, 0);
        x.set(2, 3, 9);
        x.set(3, 4, 0);
        x.open(0, false);
        x.open(1, true);
        x.felt(false);
        x.blow(5, 0);
        x.sweep();
        x.there(1, true);
        x.blow(9, 1);
        x.car(0);
        x.calm();
        x.gust(1, 1, 1);
        x.gust(2, 2, 2);
        x.house(1, 1, 1, 1);
        Check.feed(x, "lap 3");
        for (int times = 0; times < 2; times++) {
            due("restored", x.restore(1), true);
            int[] want = {2, 2, 0, 2, 1, 1, 2, 1, 5, 1};
            for (int what = 0; what < want.length; what++) {
                due("count " + what, x.count(what), want[what]);
            }
            due("there", x.tile(0, 0) * 1000 + x.tile(1, 0) * 100 + x.tile(2, 0) * 10 + x.tile(3, 0), 1000);
            due("NAILED", x.tile(0, 1), 1);
            due("CLIPPED", x.tile(1, 2), 1);
            due("AGE", x.tile(2, 3), 7);
            due("MOSS", x.tile(3, 4), 8);
            due("DOORS", x.door(0, 2) * 10 + x.door(1, 2), 10);
            due("hits", x.hits(0) * 10 + x.hits(1), 22);
            due("no third CAR", x.hits(2), -1);
            due("the YARD", x.yard(2000) * 10 + x.yard(2100), 22);
            due("nothing lies elsewhere", x.yard(3000) + x.yard(3100), 0);
            due("swept", x.sweep(), 4);
            due("a GUST and its weight", x.calm(), 1);
            due("FELT", x.felt(false), true);
            x.there(2, true);
            x.car(100);
        }
        due("a FACT stays", x.count(5), 1);
        due("the tape stays", x.back(5), 0);
        Check.read(x, "!");
        x.restore(1);
        due("place() stays", x.place(), 0);
        due("a FAULT leaves the SLOTS", x.count(9), 1);
        due("a right text does not", Check.read(x, "") + x.count(9), 0);
        due("nothing is held", x.restore(1), false);
    }

    // ---- promise 51

    private void countsAtTheirEnds() {
        GaleRoof least = Check.told("roof 2 2 0; weigh 0; lap 0; nail 0; clip 0;");
        for (int t = 0; t < 4; t++) {
            least.there(t, false);
        }
        int[] low = {2, 2, 0, 0, 0, 0, 0, 0, 0, 0, 0, 0, 0, 0, 0, 0, 0};
        for (int what = 0; what < low.length; what++) {
            due("the least count " + what, least.count(what), low[what]);
        }
        StringBuilder text = new StringBuilder("roof 6 6 3; weigh 99; lap 99; nail 99; clip 99;");
        for (int i = 0; i < 6; i++) {
            text.append("nailed if 1==1;clipped if 1==1;warn if 1==1;door d").append((char) ('a' + i)).append(" 0 1;");
        }
        GaleRoof most = Check.told(text.toString());
        for (int i = 0; i < 60; i++) {
            most.house(0, 0, 0, 0);
        }
        for (int i = 0; i < 8; i++) {
            most.car(0);
            most.gust(0, 0, 1);
            most.hold(i);
        }
        for (int i = 0; i < 101; i++) {
            most.feed(0, 0, 0, 0, 0);
        }
        int[] high = {6, 6, 3, 6, 36, 60, 8, 4, 2000, 3, 6, 6, 6, 99, 99, 99, 99};
        for (int what = 0; what < high.length; what++) {
            due("the most of count " + what, most.count(what), high[what]);
        }
        for (int what : new int[] {17, -1, 18, 100, 256, HIGH, LOW}) {
            due("no count " + what, most.count(what), -1);
        }
        // A VOID is a FACT, a GONE one no TILE.
        GaleRoof x = village("", new int[][] {{1, 1}});
        x.annul(0);
        x.there(7, false);
        due("FACTS", x.count(5), 2);
        due("TILES", x.count(4), 15);
        x.blow(99, 1);
        due("TILES behind a GUST", x.count(4), 0);
    }

    public static void main(String[] args) {
        VillageEdgesTest test = new VillageEdgesTest();
        test.sixtyFacts();
        test.knownByN();
        test.warnedAtItsEnds();
        test.ways();
        test.lines();
        test.slotsAtTheirEnds();
        test.slotsHoldEachNumber();
        test.slotsHoldAllOfIt();
        test.countsAtTheirEnds();
        test.check.end();
    }
}
