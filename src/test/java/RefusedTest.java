import java.util.ArrayList;
import java.util.Arrays;
import java.util.List;

/**
 * Every call with one argument just or far outside of what the document takes: it is refused with the answer
 * that is due, nothing happens by it, and the next calls answer as if it had not been made. With each argument
 * at its first and its last value the call is not refused.
 */
public final class RefusedTest {
    private static final int LOW = Integer.MIN_VALUE;
    private static final int HIGH = Integer.MAX_VALUE;
    private static final int NONE = -1;
    private static final String TEXT = "roof 2 3 1; lap 4; years 3; moss 2; door a 1 3 open; door b 0 4; door c 2 2 open;"
        + "nailed if third == 1; clipped if edge == 2 and row == 1; suck = gust + bare * 5 - nails * 3;"
        + "press = (inlet - outlet) * gust / 9; far = gust / 9 + row; warn if age < 30 and way != 2;";

    interface Call {
        long on(GaleRoof x, int[] a);
    }

    private final Check check = new Check("RefusedTest");
    private final String rich = Look.at(RefusedTest::makeRich);

    /** Of all there is some: DOORS 0 .. 2, FACTS 0 .. 4 (the last a VOID), CARS 0 and 1, GUSTS 0 and 1, SLOT 1, six bytes. */
    private static void makeRich(GaleRoof x) {
        Check.read(x, TEXT);
        x.car(2205);
        x.car(1104);
        x.gust(50, 1, 3);
        x.gust(30, 2, 1);
        x.house(5, 1, 0, 7);
        x.house(40, 3, 9, 0);
        x.house(28, 2, 4, 12);
        x.house(99, 0, 1, 99);
        x.annul(1);
        x.felt(true);
        x.there(4, false);
        x.blow(45, 0);
        x.hold(1);
        x.there(4, true);
        x.there(2, true);
        x.felt(false);
        x.open(1, true);
        x.set(1, 4, 60);
        x.gust(41, 3, 2);
        Check.read(x, "lap 100;");
        Check.feed(x, "lap 7;");
    }

    /** Nothing more goes in: tape, CARS, GUSTS, FACTS, SLOTS. */
    private static void makeFull(GaleRoof x) {
        Check.read(x, TEXT);
        for (int i = 0; i < 8; i++) {
            x.car(2000 + i);
        }
        for (int i = 0; i < 4; i++) {
            x.gust(20 + 10 * i, i, 1 + i);
        }
        for (int i = 0; i < 60; i++) {
            x.house(i, i % 4, i % 10, i % 7);
        }
        for (int i = 0; i < 3; i++) {
            x.hold(i);
            x.blow(30 + 10 * i, i);
        }
        x.there(2, true);
        x.there(4, true);
        for (int i = 0; i < 100; i++) {
            x.feed(0x6c617020, 0x373b2020, 0x20202020, 0x20202020, 0x20202020);
        }
    }

    private static int[] r(int first, int last) {
        return new int[] {first, last};
    }

    private static int[] outside(int[] range) {
        int first = range[0];
        int last = range[1];
        return new int[] {first - 1, last + 1, first - 2, last + 2, first - 256, last + 256, first - 65536, last + 65536, LOW, HIGH, LOW + 1, HIGH - 1};
    }

    /** Each argument in turn outside, the others at their first or at their last value; then all outside. */
    private static List<int[]> wrong(int[][] ranges) {
        List<int[]> all = new ArrayList<>();
        for (int side = 0; side < 2; side++) {
            int[] inside = new int[ranges.length];
            for (int i = 0; i < ranges.length; i++) {
                inside[i] = ranges[i][side];
            }
            for (int i = 0; i < ranges.length; i++) {
                for (int value : outside(ranges[i])) {
                    int[] a = inside.clone();
                    a[i] = value;
                    all.add(a);
                }
            }
            int[] every = new int[ranges.length];
            for (int i = 0; i < ranges.length; i++) {
                every[i] = side == 0 ? ranges[i][0] - 1 : ranges[i][1] + 1;
            }
            all.add(every);
        }
        return all;
    }

    /** A call that only tells: refused ones are made in one run, a hundred at most. */
    private void tells(String name, long refusal, Call call, int[]... ranges) {
        refusedInOneRun(name, refusal, call, ranges);
        taken(name, refusal, call, ranges);
    }

    private void refusedInOneRun(String name, long refusal, Call call, int[]... ranges) {
        List<int[]> all = wrong(ranges);
        for (int from = 0; from < all.size(); from += 100) {
            List<int[]> some = all.subList(from, Math.min(all.size(), from + 100));
            check.due(name + ": a refused one changes nothing", Look.at(x -> {
                makeRich(x);
                refuse(x, name, refusal, call, some);
            }), rich);
        }
    }

    /** A call that changes something: each refused one by itself. */
    private void changes(String name, long refusal, Call call, int[]... ranges) {
        refusedOneByOne(name, refusal, call, ranges);
        taken(name, refusal, call, ranges);
    }

    private void refusedOneByOne(String name, long refusal, Call call, int[]... ranges) {
        for (int[] a : wrong(ranges)) {
            check.due(name + Arrays.toString(a) + ": refused, it changes nothing", Look.at(x -> {
                makeRich(x);
                refuse(x, name, refusal, call, List.of(a));
            }), rich);
        }
    }

    private void refuse(GaleRoof x, String name, long refusal, Call call, List<int[]> all) {
        for (int[] a : all) {
            check.due(name + Arrays.toString(a), call.on(x, a), refusal);
        }
    }

    /** Every choice of first and last values is taken. */
    private void taken(String name, long refusal, Call call, int[][] ranges) {
        for (int bits = 0; bits < 1 << ranges.length; bits++) {
            int[] a = new int[ranges.length];
            for (int i = 0; i < a.length; i++) {
                a[i] = ranges[i][bits >> i & 1];
            }
            GaleRoof x = new GaleRoof();
            makeRich(x);
            check.due(name + Arrays.toString(a) + " is taken", call.on(x, a) != refusal, true);
        }
    }

    private static long is(boolean answer) {
        return answer ? 1 : 0;
    }

    private void roofTells() {
        tells("tile", NONE, (x, a) -> x.tile(a[0], a[1]), r(0, 5), r(0, 5));
        tells("door", NONE, (x, a) -> x.door(a[0], a[1]), r(0, 2), r(0, 2));
        tells("inlet", NONE, (x, a) -> x.inlet(a[0], a[1]), r(0, 3), r(0, 1));
        tells("lift", LOW, (x, a) -> x.lift(a[0], a[1], a[2], a[3]), r(0, 5), r(0, 99), r(0, 3), r(0, 3));
        tells("goes", NONE, (x, a) -> x.goes(a[0], a[1], false), r(0, 5), r(0, 3));
        tells("goes far", NONE, (x, a) -> x.goes(a[0], a[1], true), r(0, 5), r(0, 3));
        tells("first", NONE, (x, a) -> x.first(a[0], false), r(0, 3));
        tells("first's GUST", NONE, (x, a) -> x.first(a[0], true), r(0, 3));
        tells("fall", NONE, (x, a) -> x.fall(a[0], a[1], a[2]), r(0, 99), r(0, 3), r(0, 1));
        refusedInOneRun("fallen", NONE, (x, a) -> x.fallen(a[0], a[1], a[2]), r(0, 99), r(0, 3), r(0, 3));
        tells("round", NONE, (x, a) -> x.round(a[0], a[1], a[2]), r(0, 5), r(0, 99), r(0, 3));
        tells("lands", NONE, (x, a) -> x.lands(a[0], a[1], a[2]), r(0, 5), r(0, 99), r(0, 3));
        tells("hits", NONE, (x, a) -> x.hits(a[0]), r(0, 1));
        tells("worst", NONE, (x, a) -> x.worst(a[0], a[1]), r(0, 99), r(0, 3));
        tells("count", NONE, (x, a) -> x.count(a[0]), r(0, 16));
    }

    private void plansTell() {
        tells("doors", NONE, (x, a) -> x.doors(a[0], a[1]), r(0, 99), r(0, 3));
        tells("helps", -100, (x, a) -> x.helps(a[0], a[1], a[2]), r(0, 2), r(0, 99), r(0, 3));
        tells("ever", NONE, (x, a) -> x.ever(a[0], a[1]), r(0, 2), r(0, 3));
        tells("nailing", NONE, (x, a) -> x.nailing(a[0]), r(0, 2));
        tells("onebyone", NONE, (x, a) -> x.onebyone(a[0]), r(0, 12));
        tells("without", -1000000, (x, a) -> x.without(a[0]), r(0, 2));
        tells("neglect", -100, (x, a) -> x.neglect(a[0], a[1]), r(0, 99), r(0, 3));
        tells("night", NONE, (x, a) -> x.night(a[0]), r(1, 36));
        tells("years", NONE, (x, a) -> x.years(7, a[0]), r(0, 60));
        tells("odds", NONE, (x, a) -> x.odds(7, a[0], a[1], a[2]), r(1, 50), r(0, 60), r(0, 36));
        tells("yardTells", NONE, (x, a) -> x.yardTells(a[0]), r(0, 3));
        tells("warned", NONE, (x, a) -> x.warned(a[0], a[1], a[2]), r(0, 99), r(0, 3), r(0, 9));
        tells("village", NONE, (x, a) -> x.village(a[0], a[1], a[2]), r(0, 5), r(0, 99), r(0, 3));
        tells("villageWays", NONE, (x, a) -> x.villageWays(a[0], a[1], true), r(0, 5), r(0, 99));
        tells("villageWays all", NONE, (x, a) -> x.villageWays(a[0], a[1], false), r(0, 5), r(0, 99));
        tells("line", NONE, (x, a) -> x.line(a[0], a[1], false), r(0, 5), r(0, 99));
        tells("line's right", NONE, (x, a) -> x.line(a[0], a[1], true), r(0, 5), r(0, 99));
    }

    private void callsChange() {
        changes("back", NONE, (x, a) -> x.back(a[0]), r(0, 6));
        for (int mark = 1; mark <= 4; mark++) {
            int what = mark;
            changes("set " + what, 0, (x, a) -> is(x.set(a[0], what, a[1])), r(0, 5), r(0, what < 3 ? 1 : 99));
        }
        changes("set's what", 0, (x, a) -> is(x.set(3, a[0], 1)), r(1, 4));
        changes("there", 0, (x, a) -> is(x.there(a[0], x.tile(a[0], 0) == 0)), r(0, 5));
        refusedOneByOne("there again", 0, (x, a) -> is(x.there(a[0], true)), r(0, 5));
        refusedOneByOne("there not", 0, (x, a) -> is(x.there(a[0], false)), r(0, 5));
        changes("open", 0, (x, a) -> is(x.open(a[0], true)), r(0, 2));
        changes("shut", 0, (x, a) -> is(x.open(a[0], false)), r(0, 2));
        changes("blow", NONE, (x, a) -> x.blow(a[0], a[1]), r(0, 99), r(0, 3));
        changes("gust", NONE, (x, a) -> x.gust(a[0], a[1], a[2]), r(0, 99), r(0, 3), r(1, 9));
        changes("house", NONE, (x, a) -> x.house(a[0], a[1], a[2], a[3]), r(0, 99), r(0, 3), r(0, 9), r(0, 99));
        changes("annul", NONE, (x, a) -> x.annul(a[0]), r(0, 3));
        changes("hold", 0, (x, a) -> is(x.hold(a[0])), r(0, 2));
        changes("restore", 0, (x, a) -> is(x.restore(a[0])), r(1, 1));
    }

    /** The parts of a CELL: a side 0 .. 3, 0 .. 5, 0 .. 19. */
    private void cells() {
        List<int[]> wrong = new ArrayList<>();
        for (int cell : new int[] {-1, -20, -100, -999, -1000, -1001, 20, 99, 119 + 1, 599, 600, 619, 999, 1020, 1600, 2099, 2600, 3520, 3600, 3999, 4000, 4519, 5000, 9999, 10000, 65536, 65536 + 100, LOW, LOW + 519, HIGH, HIGH - 3647}) {
            wrong.add(new int[] {cell});
        }
        check.due("yard: no such CELL", Look.at(x -> {
            makeRich(x);
            refuse(x, "yard", NONE, (y, a) -> y.yard(a[0]), wrong);
        }), rich);
        check.due("car: no such CELL", Look.at(x -> {
            makeRich(x);
            refuse(x, "car", NONE, (y, a) -> y.car(a[0]), wrong);
        }), rich);
        for (int from = -500; from < 4500; from += 250) {
            GaleRoof x = new GaleRoof();
            for (int cell = from; cell < from + 250; cell++) {
                boolean is = cell >= 0 && cell <= 3519 && cell % 1000 <= 519 && cell % 100 <= 19;
                check.due("yard of CELL " + cell, x.yard(cell), is ? 0 : NONE);
                if (x.count(6) == 8) {
                    x.read();
                }
            }
            for (int cell = from; cell < from + 250; cell++) {
                boolean is = cell >= 0 && cell <= 3519 && cell % 1000 <= 519 && cell % 100 <= 19;
                check.due("a CAR on CELL " + cell, new GaleRoof().car(cell), is ? 0 : NONE);
            }
        }
    }

    /** What is full takes no more, and goes on as it is. */
    private void full() {
        String due = Look.at(RefusedTest::makeFull);
        List<Look.Recipe> all = new ArrayList<>(List.of(
            x -> check.due("feed into 2,000 bytes", x.feed(0x6c617020, 0x383b2020, 0, 0, 0), NONE),
            x -> check.due("a 9th CAR", x.car(1000), NONE),
            x -> check.due("a 5th GUST", x.gust(50, 1, 1), NONE),
            x -> check.due("a 61st FACT", x.house(1, 1, 1, 1), NONE),
            x -> check.due("a VOID as a 61st FACT", x.annul(0), NONE),
            x -> check.due("a TILE that is there", x.there(firstWith(x, 1), true), false),
            x -> check.due("a TILE that is GONE", x.there(firstWith(x, 0), false), false),
            x -> check.due("back of 2,001", x.back(2001), NONE)));
        for (Look.Recipe refused : all) {
            check.due("full, it stays so", Look.at(x -> {
                makeFull(x);
                refused.make(x);
            }), due);
        }
        check.due("full, all at once", Look.at(x -> {
            makeFull(x);
            for (Look.Recipe refused : all) {
                refused.make(x);
            }
        }), due);
    }

    private static int firstWith(GaleRoof x, int is) {
        int t = 0;
        while (t < 5 && x.tile(t, 0) != is) {
            t++;
        }
        return t;
    }

    /** A call that only tells what would be changes nothing, taken or not. */
    private void tellingChangesNothing() {
        check.due("calls that only tell", Look.at(x -> {
            makeRich(x);
            x.fall(99, 0, 0);
            x.lands(0, 99, 1);
            x.worst(99, 2);
            x.goes(0, 1, true);
            x.first(1, true);
            x.doors(99, 1);
            x.helps(0, 99, 1);
            x.ever(2, 0);
            x.nailing(2);
            x.onebyone(12);
            x.without(0);
            x.without(1);
            x.without(2);
            x.neglect(99, 1);
            x.night(36);
            x.years(3, 60);
            x.lasts(3);
            x.odds(3, 50, 60, 1);
            x.yardTells(0);
            x.line(5, 1, true);
            x.villageWays(5, 1, true);
        }), rich);
    }

    /** Texts with each FAULT: nothing changes but the tape, which is empty then, and place(). */
    private void textsWithFaults() {
        String due = Look.at(RefusedTest::makeRich, false);
        String rules = "warn if 1 == 1;".repeat(7);
        String[] texts = {";", "lap", "roof 6 6 0; lap 7", "roof 6 6 0; nailed if 1 == 1; !", rules, "roof 5 5 2;" + rules,
            "lap 1;".repeat(134), "far = (((((((1)))))));", "door a 0 1; door a 0 1;", "roof 6 6 0; moss 7; years 7; door q 1 1 open; door q 1 1;",
            "roof 2 7 0;", "roof 2 2 4;", "roof 6 6 0; clip 100;", "door q 4 1;", "door q 0 10;"};
        int[] faults = {1, 1, 1, 1, 2, 2, 2, 2, 3, 3, 5, 5, 5, 5, 5};
        for (int i = 0; i < texts.length; i++) {
            String text = texts[i];
            int fault = faults[i];
            check.due("behind " + text, Look.at(x -> {
                makeRich(x);
                x.back(6);
                check.due("read of " + text, Check.read(x, text), fault);
                check.due("an empty tape behind " + text, x.count(8), 0);
            }, false), due);
        }
    }

    public static void main(String[] args) {
        RefusedTest test = new RefusedTest();
        test.roofTells();
        test.plansTell();
        test.callsChange();
        test.cells();
        test.full();
        test.tellingChangesNothing();
        test.textsWithFaults();
        test.check.end();
    }
}
