/** Promises 26 to 42 and what they lean on, edge by edge: GUSTS told ahead, DOORS, NAILS, nights, YEARS, the YARD. */
public final class PlanEdgesTest {
    private static final int LOW = Integer.MIN_VALUE;
    private static final int HIGH = Integer.MAX_VALUE;
    private static final String BARE = "weigh 0; lap 0; press = 0; ";
    private static final String ALL_GO = "roof 6 6 0; " + BARE + "suck = 1;";
    private static final String SIX_DOORS = "door a 2 9; door b 2 9; door c 2 9; door d 2 9; door e 2 9; door f 2 9;";

    private final Check check = new Check("PlanEdgesTest");

    private void due(String call, long got, long want) {
        check.due(call, got, want);
    }

    private void due(String call, boolean got, boolean want) {
        check.due(call, got, want);
    }

    private static GaleRoof told(String text, int... gone) {
        GaleRoof x = Check.told(text);
        for (int t : gone) {
            x.there(t, false);
        }
        return x;
    }

    private static GaleRoof allGone(String text) {
        GaleRoof x = Check.told(text);
        int tiles = x.count(4);
        for (int t = 0; t < tiles; t++) {
            x.there(t, false);
        }
        return x;
    }

    /** GUST 0 from WAY 0, told ahead once, with weight 1. */
    private static GaleRoof ahead(GaleRoof x) {
        x.gust(0, 0, 1);
        return x;
    }

    // ---- promises 26 to 28

    private void gustsAhead() {
        GaleRoof x = Check.told(ALL_GO);
        due("none told ahead", x.calm(), 0);
        due("HARM of none", x.harm(), 0);
        due("a weight of 0", x.gust(0, 0, 0), -1);
        due("a weight of 10", x.gust(0, 0, 10), -1);
        due("none is there by it", x.count(7), 0);
        due("GUST 0 from WAY 0", x.gust(0, 0, 1), 0);
        due("its HARM", x.harm(), 36);
        due("GUST 99 from WAY 3", x.gust(99, 3, 9), 1);
        due("their HARM", x.harm(), 360);
        due("a refused one", x.gust(100, 0, 1), -1);
        due("a refused one", x.gust(0, -1, 1), -1);
        due("the same once more is the third", x.gust(99, 3, 9), 2);
        due("the fourth", x.gust(99, 3, 9), 3);
        due("HARM, each by itself", x.harm(), 36 * 28);
        due("a fifth", x.gust(0, 0, 1), -1);
        due("four", x.count(7), 4);
        due("HARM as it was", x.harm(), 36 * 28);
        due("none went", x.count(4), 36);
        due("all four go", x.calm(), 4);
        due("none is left", x.calm(), 0);
        due("no HARM", x.harm(), 0);
        for (int i = 0; i < 4; i++) {
            due("told anew from 0 on", x.gust(50, i, 9), i);
        }
        due("the most HARM", x.harm(), 4 * 9 * 36);
        GaleRoof y = allGone(ALL_GO);
        y.gust(50, 0, 9);
        due("HARM if all are GONE", y.harm(), 0);
        // One TILE for each GUST 0, 1, 98, 99 and one for each WAY: GUST and WAY are what was told.
        GaleRoof z = Check.told("roof 2 4 0; " + BARE + "suck = 1 - (1 - row) * (gust - col - col / 2 * 96) * (gust - col - col / 2 * 96) - row * (way - col) * (way - col);");
        int[] gusts = {0, 1, 98, 99};
        for (int i = 0; i < 4; i++) {
            z.gust(gusts[i], 3 - i, 1 + 2 * i);
            due("each GUST and each WAY takes one", z.harm(), 2 * (i + 1) * (i + 1));
        }
        z.there(0, false);
        due("but for that of GUST 0", z.harm(), 31);
        z.there(0, true);
        z.there(3, false);
        due("but for that of GUST 99", z.harm(), 25);
        z.there(3, true);
        z.there(4, false);
        due("but for that of WAY 0", z.harm(), 25);
        z.there(4, true);
        z.there(7, false);
        due("but for that of WAY 3", z.harm(), 31);
    }

    // ---- promises 29 to 31

    private void doorsAtTheirEnds() {
        due("no DOORS", Check.told(ALL_GO).doors(50, 0), 0);
        String head = "roof 2 2 0; " + BARE + SIX_DOORS;
        int[] least = {0, 1, 3, 7, 15, 31, 63};
        for (int n = 0; n <= 6; n++) {
            // None goes if n of six are open: the fewest open, then the least bits.
            GaleRoof x = Check.told(head + "suck = " + 9 * n + " - outlet;");
            due(n + " open", x.doors(50, 0), least[n]);
            for (int d = 0; d < 6; d++) {
                x.open(d, true);
            }
            due(n + " open, though all are", x.doors(50, 0), least[n]);
            for (int d = 0; d < 6; d++) {
                due("still open", x.door(d, 2), 1);
            }
        }
        GaleRoof all = Check.told(head + "suck = 1;");
        due("all go in any case: none open", all.doors(50, 0), 0);
        GaleRoof some = Check.told(head + "suck = 1 - row * outlet;");
        due("row 0 goes in any case, row 1 if none is open", some.doors(50, 0), 1);
        GaleRoof last = Check.told("roof 2 2 0; " + BARE + "door a 1 9; door b 1 9; door c 1 9; door d 1 9; door e 1 9; door f 2 1; suck = 20 * inlet + 1 - outlet * outlet;");
        // From WAY 0 all six are ways out, and each alone is enough; from WAY 1 the first five only make it worse.
        due("one is enough", last.doors(50, 0), 1);
        due("from WAY 1 only the last is a way out", last.doors(50, 1), 32);
        GaleRoof gone = allGone(head + "suck = 1;");
        due("all GONE", gone.doors(50, 0), 0);
    }

    private void doorsHelp() {
        GaleRoof x = Check.told("roof 6 6 0; " + BARE + "door a 2 1; suck = 1 - outlet;");
        due("36 fewer if open", x.helps(0, 50, 0), 36);
        due("at GUST 0 already", x.ever(0, 0), 0);
        due("not from the other side", x.helps(0, 50, 2), 0);
        due("never from there", x.ever(0, 2), -2);
        x.open(0, true);
        due("36 more if shut", x.helps(0, 50, 0), -36);
        due("never", x.ever(0, 0), -2);
        due("as it was", x.door(0, 2), 1);
        GaleRoof one = Check.told("roof 6 6 0; " + BARE + "door a 2 1 open; suck = outlet * (row * 6 + col - 34) * (gust - 98);");
        // Only TILE 35, and it from GUST 99 on; below 98 those below 34.
        due("one fewer", one.helps(0, 99, 0), 1);
        due("none fewer", one.helps(0, 98, 0), 0);
        for (int t = 0; t < 34; t++) {
            one.there(t, false);
        }
        due("one by HELPS at the last GUST", one.ever(0, 0), 99);
        GaleRoof never = Check.told("roof 2 2 0; weigh 99; lap 0; press = 0; door a 2 1 open; suck = outlet * gust;");
        due("not at a GUST of 100", never.ever(0, 0), -2);
        GaleRoof two = Check.told("roof 2 2 0; weigh 9; lap 0; press = 0; door a 2 1 open; door b 2 2; suck = outlet * gust;");
        due("the first DOOR: alone it lifts from 10 on", two.ever(0, 0), 10);
        due("the last DOOR: open it lifts more", two.ever(1, 0), -2);
        two.open(1, true);
        due("both open: 4 without the first", two.ever(0, 0), 4);
        due("both open: 4 without the last", two.ever(1, 0), 4);
        due("not at a GUST below 0", Check.told("roof 2 2 0; " + BARE + "door a 2 1 open; suck = 0 - outlet * gust;").ever(0, 0), -2);
        GaleRoof gone = allGone("roof 2 2 0; " + BARE + "door a 2 1; suck = 1 - outlet;");
        due("all GONE: no help", gone.helps(0, 50, 0), 0);
        due("all GONE: never", gone.ever(0, 0), -2);
        due("no DOORS: no help", Check.told(ALL_GO).helps(0, 50, 0), -100);
        due("no DOORS: NONE", Check.told(ALL_GO).ever(0, 0), -1);
    }

    // ---- promises 32 and 33

    private void nailsAtTheirEnds() {
        GaleRoof none = Check.told(ALL_GO);
        for (int n = 0; n <= 2; n++) {
            due("no GUSTS ahead: no HARM", none.nailing(n), 0);
            due("no GUSTS ahead: no TILE", none.nailingAt(n, 0), -1);
        }
        due("three", none.nailing(3), -1);
        due("below none", none.nailing(-1), -1);
        ahead(none);
        int[] harm = {36, 35, 34};
        for (int n = 2; n >= 0; n--) {
            due("of alike ones the first", none.nailing(n), harm[n]);
            due("the first TILE", none.nailingAt(n, 0), n == 0 ? -1 : 0);
            due("the second TILE", none.nailingAt(n, 1), n == 2 ? 1 : -1);
            due("no more", none.nailingAt(n, 2), -1);
            due("none below 0", none.nailingAt(n, -1), -1);
            due("far", none.nailingAt(n, HIGH), -1);
            due("far below", none.nailingAt(n, LOW), -1);
        }
        due("none is NAILED by it", none.tile(0, 1) + none.tile(1, 1), 0);
        GaleRoof last = ahead(Check.told("roof 6 6 0; " + BARE + "suck = row * 6 + col - 33;"));
        due("the last two", last.nailing(2), 0);
        due("the last two", last.nailingAt(2, 0) * 100 + last.nailingAt(2, 1), 3435);
        due("one of them", last.nailing(1), 1);
        due("the first of them", last.nailingAt(1, 0), 34);
        GaleRoof only = ahead(Check.told("roof 6 6 0; " + BARE + "suck = row * 6 + col - 34;"));
        due("the last alone", only.nailing(2), 0);
        due("the fewest", only.nailingAt(2, 0), 35);
        due("the fewest", only.nailingAt(2, 1), -1);
        GaleRoof zero = ahead(Check.told(ALL_GO + "nail 0;"));
        due("a NAIL that holds nothing", zero.nailing(2), 36);
        due("so none", zero.nailingAt(2, 0), -1);
        due("so none", zero.nailingAt(1, 0), -1);
        // NAILED with AGE 0: at AGE 99 a NAIL of 1 would hold nothing.
        GaleRoof old = ahead(Check.told(ALL_GO + "nail 1; years 99;"));
        due("NAILED with AGE 0", old.nailing(2), 34);
        due("AGE is what it was", old.tile(0, 3), 99);
        GaleRoof young = ahead(Check.told("roof 6 6 0; " + BARE + "nail 0; years 1; suck = age;"));
        due("AGE 0 is seen by the law", young.nailing(1), 35);
    }

    /** Asked of a new object, or behind another n. */
    private void nailsAskedAlone() {
        for (int n = -2; n <= 4; n++) {
            GaleRoof x = ahead(Check.told(ALL_GO));
            due("the first of " + n, x.nailingAt(n, 0), n == 1 || n == 2 ? 0 : -1);
            due("the second of " + n, x.nailingAt(n, 1), n == 2 ? 1 : -1);
            GaleRoof y = ahead(Check.told(ALL_GO));
            due("the second of " + n, y.nailingAt(n, 1), n == 2 ? 1 : -1);
            due("HARM of 2 behind it", y.nailing(2), 34);
            due("HARM of " + n, y.nailing(n), n < 0 || n > 2 ? -1 : 36 - n);
        }
        for (int n = -1; n <= 13; n++) {
            GaleRoof x = ahead(Check.told(ALL_GO));
            due("the last of " + n, x.onebyoneAt(n, n - 1), n < 1 || n > 12 ? -1 : n - 1);
            due("the third of 4 behind it", x.onebyoneAt(4, 2), 2);
            due("HARM of " + n, x.onebyone(n), n < 0 || n > 12 ? -1 : 36 - n);
        }
        // Neither of a pair is any good alone, and neither is the first that could be nailed.
        GaleRoof pair = ahead(Check.told("roof 2 3 0; " + BARE + "suck = holes * 99 + 1 - (row + col - 2) * (row + col - 2);"));
        due("one alone is no help", pair.nailing(1), 6);
        due("none is chosen", pair.nailingAt(1, 0), -1);
        due("both are", pair.nailing(2), 0);
        due("the first of both", pair.nailingAt(2, 0), 2);
        due("the second of both", pair.nailingAt(2, 1), 4);
        // One alone is some help, but it is none of the two that are most.
        GaleRoof better = ahead(Check.told("roof 2 3 0; " + BARE + "nail 99; suck = holes * 20 + 1 - (row + col - 2) * (row + col - 2);"));
        due("one alone saves itself", better.nailing(1), 5);
        due("the first that does", better.nailingAt(1, 0), 0);
        due("two save all", better.nailing(2), 0);
        due("the first of the two", better.nailingAt(2, 0), 2);
        due("the second of the two", better.nailingAt(2, 1), 4);
        due("ONE BY ONE goes by single steps", better.onebyone(2), 4);
        due("the first step", better.onebyoneAt(2, 0), 0);
        due("the second step", better.onebyoneAt(2, 1), 1);
    }

    private void nailsForWhatIsThereAndBare() {
        GaleRoof nailed = ahead(Check.told(ALL_GO + "nail 0; nailed if 1 == 1;"));
        due("all NAILED: none to nail", nailed.nailing(2), 36);
        due("none", nailed.nailingAt(2, 0), -1);
        due("nor ONE BY ONE", nailed.onebyone(12), 36);
        due("nor ONE BY ONE", nailed.onebyoneAt(12, 0), -1);
        due("nor by THIRDS", nailed.without(0), 36);
        nailed.set(35, 1, 0);
        nailed.set(35, 4, 0);
        due("one to nail, but a NAIL holds nothing", nailed.nailing(2), 36);
        GaleRoof one = ahead(Check.told(ALL_GO + "nail 9; years 9; nailed if 1 == 1;"));
        due("old nails hold nothing", one.harm(), 36);
        one.set(20, 1, 0);
        due("the one to nail", one.nailing(2), 35);
        due("the one to nail", one.nailingAt(2, 0), 20);
        due("no other", one.nailingAt(2, 1), -1);
        due("ONE BY ONE", one.onebyone(12), 35);
        due("ONE BY ONE", one.onebyoneAt(12, 0) * 10 + one.onebyoneAt(12, 1), 199);
        one.there(20, false);
        due("it is GONE", one.nailing(2), 35);
        due("it is GONE", one.nailingAt(2, 0), -1);
        due("ONE BY ONE", one.onebyoneAt(12, 0), -1);
        GaleRoof gone = ahead(allGone(ALL_GO));
        due("all GONE", gone.nailing(2), 0);
        due("all GONE", gone.nailingAt(2, 0), -1);
        due("all GONE", gone.onebyone(12), 0);
        due("all GONE", gone.onebyoneAt(12, 0), -1);
        due("all GONE", gone.without(0) + gone.without(1) + gone.without(2), 0);
    }

    // ---- promises 34 and 35

    private void oneByOne() {
        GaleRoof x = Check.told(ALL_GO);
        for (int n = 0; n <= 12; n++) {
            due("no GUSTS ahead", x.onebyone(n), 0);
            due("no GUSTS ahead", x.onebyoneAt(n, 0), -1);
        }
        ahead(x);
        for (int n = 12; n >= 0; n--) {
            due(n + " at most", x.onebyone(n), 36 - n);
            due("the last of " + n, x.onebyoneAt(n, n - 1), n - 1);
            due("no more than " + n, x.onebyoneAt(n, n), -1);
        }
        due("13", x.onebyone(13), -1);
        due("the first of 13", x.onebyoneAt(13, 0), -1);
        due("below 0", x.onebyone(-1), -1);
        due("the first of -1", x.onebyoneAt(-1, 0), -1);
        due("none below 0", x.onebyoneAt(12, -1), -1);
        due("none far below", x.onebyoneAt(12, LOW), -1);
        due("none far above", x.onebyoneAt(12, HIGH), -1);
        GaleRoof small = ahead(Check.told("roof 2 2 0; " + BARE + "suck = 1;"));
        due("four TILES, twelve nails", small.onebyone(12), 0);
        due("the fourth", small.onebyoneAt(12, 3), 3);
        due("no fifth", small.onebyoneAt(12, 4), -1);
        // The best first, the others as they follow: TILE n holds back n below it.
        GaleRoof best = ahead(Check.told("roof 2 3 0; " + BARE + "nail 99; suck = 1 - col + row + holes * 2 - row * row;"));
        int first = best.onebyoneAt(1, 0);
        due("it leaves the least HARM", best.onebyone(1), least(best));
        due("and is the first of those", first, firstOfLeast(best));
        // As long as HARM becomes less: a first nail that helps nothing is not set.
        GaleRoof both = ahead(Check.told("roof 2 2 0; " + BARE + "suck = holes * 99 + 1 - (row + col - 1) * (row + col - 1);"));
        due("one alone helps nothing", both.onebyone(12), 4);
        due("so none is chosen", both.onebyoneAt(12, 0), -1);
        due("though two would help", both.nailing(2), 0);
    }

    /** By setting each by hand: the least HARM of one nail with AGE 0. */
    private static int least(GaleRoof x) {
        int best = x.harm();
        for (int t = 0; t < x.count(4); t++) {
            x.set(t, 1, 1);
            best = Math.min(best, x.harm());
            x.set(t, 1, 0);
        }
        return best;
    }

    private static int firstOfLeast(GaleRoof x) {
        int best = least(x);
        for (int t = 0; t < x.count(4); t++) {
            x.set(t, 1, 1);
            int harm = x.harm();
            x.set(t, 1, 0);
            if (harm == best) {
                return t;
            }
        }
        return -1;
    }

    // ---- promises 36 and 37

    private void thirdsMossFelt() {
        GaleRoof x = Check.told(ALL_GO);
        due("THIRDS without GUSTS", x.without(0), 0);
        ahead(x);
        due("THIRDS: twelve hold", x.without(0), 24);
        due("none is NAILED by it", x.tile(0, 1), 0);
        due("no MOSS", x.without(1), 0);
        due("no PRESS", x.without(2), 0);
        x.there(0, false);
        due("THIRDS: a GONE one", x.without(0), 24);
        x.set(3, 1, 1);
        x.set(3, 3, 99);
        due("THIRDS: a NAILED one keeps its AGE", x.without(0), 25);
        for (int what : new int[] {3, -1, 4, LOW, HIGH}) {
            due("no what", x.without(what), -1000000);
        }
        GaleRoof moss = Check.told(ALL_GO + "moss 1;");
        for (int i = 0; i < 4; i++) {
            moss.gust(0, i, 9);
        }
        due("MOSS 1 holds all", moss.harm(), 0);
        due("MOSSLESS at its most", moss.without(1), 1296);
        due("MOSS as it was", moss.tile(35, 4), 1);
        due("MOSSLESS with a LIFT of 0", ahead(Check.told("roof 2 2 0; " + BARE + "moss 1; suck = 0;")).without(1), 0);
        GaleRoof light = ahead(Check.told("roof 6 6 0; " + BARE + "moss 1; suck = grown * 2;"));
        due("MOSS that lifts", light.without(1), -36);
        GaleRoof felt = Check.told("roof 6 6 0; weigh 0; lap 0; suck = 0; press = 1;");
        for (int i = 0; i < 4; i++) {
            felt.gust(0, i, 9);
        }
        due("FELTED at its most", felt.without(2), -1296);
        due("FELT lies not by it", felt.felt(true), false);
        due("no HARM under FELT", felt.harm(), 0);
        due("FELTED is the same under FELT", felt.without(2), -1296);
        due("FELT lies still", felt.felt(false), true);
        GaleRoof down = ahead(Check.told("roof 6 6 0; weigh 0; lap 0; suck = 1; press = 0 - 1;"));
        due("FELT that keeps from pressing down", down.without(2), 36);
    }

    private void neglects() {
        GaleRoof x = Check.told("roof 6 6 0; " + BARE + "years 1; suck = age;");
        due("all go by AGE alone", x.neglect(0, 0), 36);
        due("AGE as it was", x.tile(0, 3), 1);
        GaleRoof moss = Check.told("roof 6 6 0; " + BARE + "moss 1; suck = grown + grown;");
        due("all go by MOSS alone", moss.neglect(0, 0), 36);
        GaleRoof gone = allGone(ALL_GO);
        due("all GONE: 36 fewer", gone.neglect(0, 0), -36);
        due("none is there by it", gone.count(4), 0);
        due("as they are NAILED", Check.told(ALL_GO + "nail 1; years 1; nailed if col == 0;").neglect(0, 0), 6);
        due("as they are CLIPPED", Check.told("roof 6 6 0; " + BARE + "clip 5; years 9; clipped if col == 0; suck = 1 + age;").neglect(0, 0), 6);
        due("as the DOORS are", Check.told("roof 2 2 0; " + BARE + "years 1; door a 2 1 open; suck = age * outlet;").neglect(0, 0), 4);
        GaleRoof felt = Check.told("roof 2 2 0; weigh 0; lap 0; years 1; suck = 0; press = age;");
        due("without FELT", felt.neglect(0, 0), 4);
        felt.felt(true);
        due("as FELT lies", felt.neglect(0, 0), 0);
        due("without MOSS a LIFT of 0", Check.told("roof 2 2 0; " + BARE + "moss 1; suck = grown * 2;").neglect(0, 0), 4);
        due("at AGE 0 a LIFT of 0", Check.told("roof 2 2 0; " + BARE + "years 1; suck = 2 - age * 2;").neglect(0, 0), -4);
        due("no GUST", x.neglect(100, 0), -100);
        due("no WAY", x.neglect(0, 4), -100);
    }

    // ---- promise 38

    private void nights() {
        GaleRoof x = Check.told(ALL_GO);
        due("none told ahead", x.night(1), -2);
        due("none told ahead", x.night(36), -2);
        due("none told ahead, and no such number: NONE", x.night(0), -1);
        due("none told ahead, and no such number: NONE", x.night(37), -1);
        ahead(x);
        due("behind one", x.night(1), 1);
        due("all behind one", x.night(36), 1);
        due("none below 1", x.night(0), -1);
        due("none above 36", x.night(37), -1);
        x.there(35, false);
        due("one already", x.night(1), 0);
        due("two behind one", x.night(2), 1);
        x.calm();
        due("one already, though none is told ahead", x.night(1), 0);
        due("two never, as none is told ahead", x.night(2), -2);
        GaleRoof gone = ahead(allGone(ALL_GO));
        due("36 already", gone.night(36), 0);
        GaleRoof small = ahead(Check.told("roof 2 2 0; " + BARE + "suck = 1;"));
        due("four of four", small.night(4), 1);
        due("five of four: never", small.night(5), -2);
        due("36 of four: never", small.night(36), -2);
        // One TILE for each GUST: TILE n goes if n are GONE and the WAY is the third of n.
        String law = "roof 6 6 0; " + BARE + "suck = 1 - (holes - row * 6 - col) * (holes - row * 6 - col) * 9 - (way - third) * (way - third);";
        GaleRoof round = Check.told(law);
        round.gust(0, 0, 1);
        round.gust(0, 1, 1);
        round.gust(0, 2, 1);
        for (int n = 1; n <= 36; n++) {
            due(n + " behind as many, round and round", round.night(n), n);
        }
        due("the ROOF stays", round.count(4), 36);
        // Without a WAY for each, one once in two GUSTS, then three in eight: 80 in all at most.
        GaleRoof two = Check.told(law.replace("(way - third) * (way - third)", "way"));
        two.gust(0, 0, 1);
        due("all at one GUST", two.night(36), 1);
        GaleRoof slow = Check.told(law);
        slow.gust(0, 2, 1);
        slow.gust(0, 1, 1);
        slow.gust(0, 0, 1);
        // WAYS 2, 1, 0, 2, 1, 0 ..: TILE 0 at the 3rd, 1 at the 5th, 2 at the 7th, 3 at the 9th ..
        due("the first", slow.night(1), 3);
        due("the second", slow.night(2), 5);
        due("the 36th", slow.night(36), 73);
        GaleRoof slower = Check.told(law);
        slower.gust(0, 2, 1);
        slower.gust(0, 2, 1);
        slower.gust(0, 1, 1);
        slower.gust(0, 0, 1);
        // TILE 0 at the 4th, 1 at the 7th, 2 at the 9th; 3 at the 12th ..: three in eight.
        due("the 29th", slower.night(29), 79);
        due("the 30th would be the 81st", slower.night(30), -2);
        // With TILE 0 GONE and the WAYS the other way round the 31st is GONE behind the 80th GUST.
        GaleRoof eighty = told(law, 0);
        for (int way = 3; way >= 0; way--) {
            eighty.gust(0, way, 1);
        }
        due("behind the 80th", eighty.night(31), 80);
        due("not one more", eighty.night(32), -2);
    }

    // ---- promises 39 to 41

    private void yearsAtTheirEnds() {
        GaleRoof all = Check.told(ALL_GO);
        due("behind no YEAR", all.years(1, 0), 0);
        due("behind one", all.years(1, 1), 36);
        due("behind 60", all.years(1, 60), 36);
        due("behind 61", all.years(1, 61), -1);
        due("behind -1", all.years(1, -1), -1);
        due("YEAR 0", all.lasts(1), 0);
        due("the ROOF stays", all.count(4), 36);
        due("and its AGE", all.tile(0, 3), 0);
        GaleRoof gone = allGone(ALL_GO);
        due("all GONE, behind none", gone.years(1, 0), 36);
        due("all GONE, behind 60", gone.years(1, 60), 36);
        due("none of those that are there", gone.lasts(1), -2);
        GaleRoof single = Check.told("roof 2 2 0; " + BARE + "suck = 1 - row - col;");
        due("only one goes", single.lasts(1), 0);
        due("only one goes", single.years(1, 60), 1);
        GaleRoof one = told(ALL_GO, 35);
        due("one GONE, behind none", one.years(1, 0), 1);
        due("one GONE, then all", one.years(1, 1), 36);
        for (int age : new int[] {1, 2, 59, 60}) {
            // All go when AGE is so much: in YEAR age - 1, as AGE is one more ahead of the GUST.
            GaleRoof x = Check.told("roof 2 2 0; " + BARE + "suck = age - " + (age - 1) + ";");
            due("not behind " + (age - 1), x.years(7, age - 1), 0);
            due("behind " + age, x.years(7, age), 4);
            due("in YEAR " + (age - 1), x.lasts(7), age - 1);
        }
        GaleRoof late = Check.told("roof 2 2 0; " + BARE + "suck = age - 60;");
        due("AGE 61 is not reached", late.years(7, 60), 0);
        due("none goes in 60", late.lasts(7), -2);
        GaleRoof cap = Check.told("roof 2 2 0; " + BARE + "years 98; suck = age - 98;");
        due("AGE 99 in YEAR 0", cap.lasts(7), 0);
        GaleRoof top = Check.told("roof 2 2 0; " + BARE + "years 98; suck = age - 99;");
        due("99 at most", top.lasts(7), -2);
        due("99 at most", top.years(7, 60), 0);
        GaleRoof stays = Check.told("roof 2 2 0; " + BARE + "years 99; suck = 99 - age;");
        due("it does not begin anew", stays.years(7, 60), 0);
    }

    private void lotsAtTheirEnds() {
        for (int seed : new int[] {0, 1, -1, HIGH, LOW, HIGH - 1, LOW + 1, 16, 12345}) {
            int year = 3;
            int gust = Check.lot(100, seed, 2 * year);
            int way = Check.lot(4, seed, 2 * year + 1);
            // In YEAR 3 alone, by just that GUST and WAY.
            String law = "roof 2 2 0; " + BARE + "suck = 1 - (age - 4) * (age - 4) * 99 - (gust - " + gust + ") * (gust - " + gust + ") - (way - " + way + ") * (way - " + way + ");";
            GaleRoof x = Check.told(law);
            due("LOTS of " + seed, x.lasts(seed), 3);
            due("LOTS of " + seed, x.years(seed, 3) * 10 + x.years(seed, 4), 4);
        }
        // The last YEAR's LOTS are 118 and 119.
        int gust = Check.lot(100, 77, 118);
        int way = Check.lot(4, 77, 119);
        GaleRoof last = Check.told("roof 2 2 0; " + BARE + "suck = 1 - (age - 60) * (age - 60) * 99 - (gust - " + gust + ") * (gust - " + gust + ") - (way - " + way + ") * (way - " + way + ");");
        due("LOTS of YEAR 59", last.lasts(77), 59);
        due("LOTS of YEAR 59", last.years(77, 59) * 10 + last.years(77, 60), 4);
    }

    private void oddsAtTheirEnds() {
        GaleRoof all = Check.told(ALL_GO);
        due("one SEED", all.odds(5, 1, 1, 36), 1);
        due("50 SEEDS", all.odds(5, 50, 60, 36), 50);
        due("behind none 0 or more", all.odds(5, 50, 0, 0), 50);
        due("behind none not 1", all.odds(5, 50, 0, 1), 0);
        due("no SEED", all.odds(5, 0, 1, 1), -1);
        due("51 SEEDS", all.odds(5, 51, 1, 1), -1);
        due("k of -1", all.odds(5, 1, -1, 0), -1);
        due("k of 61", all.odds(5, 1, 61, 0), -1);
        due("GONE below 0", all.odds(5, 1, 1, -1), -1);
        due("GONE above 36", all.odds(5, 1, 1, 37), -1);
        GaleRoof small = Check.told("roof 2 2 0; " + BARE + "suck = 1;");
        due("four or more of four", small.odds(5, 7, 1, 4), 7);
        due("five or more of four", small.odds(5, 7, 1, 5), 0);
        due("36 or more of four", small.odds(5, 7, 1, 36), 0);
        // SEEDS one behind the other, beyond the greatest the least.
        for (int seed : new int[] {HIGH - 24, HIGH, LOW, -25, 0}) {
            GaleRoof x = Check.told("roof 2 2 0; " + BARE + "suck = 50 - gust;");
            int such = 0;
            for (int i = 0; i < 50; i++) {
                such += Check.lot(100, seed + i, 0) < 50 ? 1 : 0;
            }
            due("SEEDS from " + seed + " on", x.odds(seed, 50, 1, 4), such);
            due("SEEDS from " + seed + " on, one alone", x.odds(seed, 1, 1, 1), Check.lot(100, seed, 0) < 50 ? 1 : 0);
        }
    }

    // ---- promise 42

    private void fromTheYard() {
        GaleRoof calm = Check.told("suck = 0;");
        yardTells("nothing goes, nothing lies", calm, 0, 0, 0, -2);
        GaleRoof all = Check.told(ALL_GO);
        yardTells("all go at any GUST, nothing lies", all, 0, 0, 36, 0);
        GaleRoof first = told(ALL_GO, 0, 1, 2);
        yardTells("a whole ROOF goes, not what is left", first, 0, 0, 36, 0);
        String late = "roof 2 2 0; " + BARE + "suck = (gust - 98) * (way - 2);";
        GaleRoof last = Check.told(late);
        last.blow(99, 3);
        yardTells("the last GUST and the last WAY", last, 99, 3, 0, 0);
        last.sweep();
        yardTells("swept: the first at which none goes", last, 0, 2, 0, -2);
        // Only TILE 0 goes, from WAY 1 from 5 on, from WAY 0 from 10 on; one lies where each of them lands.
        GaleRoof tie = Check.told("roof 2 2 0; weigh 9; lap 0; press = 0; far = 0; suck = gust + way * 5 - (row + col) * 200;");
        tie.blow(20, 0);
        tie.there(0, true);
        tie.blow(20, 1);
        yardTells("of alike ones the least GUST ahead of the least WAY", tie, 5, 1, 1, 0);
        GaleRoof ways = Check.told("roof 2 2 0; weigh 9; lap 0; press = 0; far = 0; suck = gust - (row + col) * 200;");
        ways.blow(20, 3);
        ways.there(0, true);
        ways.blow(20, 2);
        yardTells("of alike GUSTS the least WAY", ways, 10, 2, 1, 0);
        GaleRoof more = Check.told("roof 2 2 0; " + BARE + "far = 0; suck = 1 - (gust - 7) * (gust - 7) - row - col;");
        for (int i = 0; i < 3; i++) {
            more.blow(7, 0);
            more.there(0, true);
        }
        yardTells("three lie, one goes", more, 7, 0, 2, 0);
        due("what is there does not matter", more.there(0, false), true);
        yardTells("a whole ROOF", more, 7, 0, 2, 0);
        more.set(0, 4, 1);
        yardTells("else as it is", more, 0, 0, 3, -2);
        // What lies as only a GUST of 100, or one below 0, would have it.
        GaleRoof above = Check.told("roof 2 2 0; " + BARE + "far = 0; years 1; suck = gust + age - 99;");
        above.blow(99, 0);
        for (int t = 0; t < 4; t++) {
            above.set(t, 3, 0);
        }
        yardTells("no GUST is 100", above, 0, 0, 4, -2);
        GaleRoof below = Check.told("roof 2 2 0; " + BARE + "far = 0; years 1; suck = age - gust;");
        below.blow(0, 0);
        for (int t = 0; t < 4; t++) {
            below.set(t, 3, 0);
        }
        yardTells("no GUST is below 0", below, 0, 0, 4, -2);
        // The first in ORDER, not in number.
        GaleRoof order = Check.told("roof 2 2 0; " + BARE + "suck = row + col - 1 + holes;");
        order.blow(50, 0);
        due("the first TILE", order.yardTells(3), 3);
        GaleRoof felt = Check.told("roof 2 2 0; weigh 0; lap 0; suck = 0; press = 1; far = 0;");
        felt.blow(0, 0);
        yardTells("without FELT", felt, 0, 0, 0, 0);
        felt.felt(true);
        yardTells("as FELT lies", felt, 0, 0, 4, -2);
        due("no what", felt.yardTells(4), -1);
        due("no what", felt.yardTells(-1), -1);
    }

    private void yardTells(String why, GaleRoof x, int gust, int way, int apart, int first) {
        due(why + ": the GUST", x.yardTells(0), gust);
        due(why + ": the WAY", x.yardTells(1), way);
        due(why + ": how far apart", x.yardTells(2), apart);
        due(why + ": the first TILE", x.yardTells(3), first);
    }

    /** What was told once is told anew as soon as something has changed, and only then. */
    private void toldAnew() {
        GaleRoof x = Check.told("roof 2 2 0; " + BARE + "moss 0; far = 0; suck = 1 - (gust - 7) * (gust - 7);");
        due("at 7 all go", x.blow(7, 0), 4);
        due("told", x.yardTells(2), 0);
        x.set(0, 4, 1);
        due("behind a set", x.yardTells(2), 1);
        x.set(0, 4, 0);
        due("behind a set", x.yardTells(2), 0);
        x.hold(0);
        x.there(0, true);
        x.blow(7, 0);
        due("behind a blow", x.yardTells(2), 1);
        x.restore(0);
        due("behind a restore", x.yardTells(2), 0);
        x.sweep();
        due("behind a sweep", x.yardTells(2) * 100 + x.yardTells(0), 0);
        x.restore(0);
        due("behind a restore", x.yardTells(0), 7);
        Check.read(x, "suck = 0;");
        due("behind a text", x.yardTells(3), -2);
        GaleRoof y = Check.told("roof 2 2 0; weigh 0; lap 0; suck = 0; press = outlet; far = 0; door a 2 1 open;");
        y.blow(0, 0);
        due("told", y.yardTells(2), 0);
        y.open(0, false);
        due("behind a DOOR is shut", y.yardTells(2), 4);
        y.open(0, true);
        due("behind it is opened", y.yardTells(2), 0);
        y.felt(true);
        due("behind FELT", y.yardTells(2), 4);
        GaleRoof z = ahead(Check.told("roof 2 2 0; " + BARE + "far = 0; suck = 1;"));
        due("told", z.nailing(1) * 10 + z.onebyone(1), 33);
        due("empty", z.yardTells(2), 4);
        z.blow(0, 0);
        due("behind a blow", z.nailing(1) * 10 + z.onebyone(1), 0);
        due("behind a blow", z.yardTells(2), 0);
        z.there(0, true);
        z.there(1, true);
        due("behind there", z.nailing(1) * 10 + z.onebyone(1), 11);
        ahead(z);
        due("behind a GUST more", z.nailing(1) * 10 + z.onebyone(1), 22);
        z.calm();
        due("behind calm", z.nailing(1) * 10 + z.onebyone(1), 0);
        due("behind calm", z.nailingAt(1, 0) * 10 + z.onebyoneAt(1, 0), -11);
    }

    public static void main(String[] args) {
        PlanEdgesTest test = new PlanEdgesTest();
        test.gustsAhead();
        test.doorsAtTheirEnds();
        test.doorsHelp();
        test.nailsAtTheirEnds();
        test.nailsAskedAlone();
        test.nailsForWhatIsThereAndBare();
        test.oneByOne();
        test.thirdsMossFelt();
        test.neglects();
        test.nights();
        test.yearsAtTheirEnds();
        test.lotsAtTheirEnds();
        test.oddsAtTheirEnds();
        test.fromTheYard();
        test.toldAnew();
        test.check.end();
    }
}
