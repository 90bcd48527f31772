import java.util.ArrayList;
import java.util.List;
import java.util.Random;

/** Runs of calls by lots on the class and on the slow model beside it. */
public final class RandomRunsTest {
    private final Check check;
    private final Random lots;
    private final TextMaker maker;
    private final GaleRoof roof = new GaleRoof();
    private final Oracle oracle = new Oracle();
    private final List<String> calls = new ArrayList<>();
    private boolean small;

    private RandomRunsTest(Check check, long seed) {
        this.check = check;
        lots = new Random(seed);
        maker = new TextMaker(lots);
        calls.add("seed " + seed);
    }

    private void same(String call, long got, long want) {
        calls.add(call + " -> " + want);
        check.due(got == want ? call : String.join("\n  ", calls), got, want);
    }

    private void same(String call, boolean got, boolean want) {
        same(call, got ? 1 : 0, want ? 1 : 0);
    }

    /** Mostly 0 .. most, now and then just or far outside. */
    private int upTo(int most) {
        int lot = lots.nextInt(40);
        if (lot == 0) {
            return -1 - lots.nextInt(3);
        }
        if (lot == 1) {
            return most + 1 + lots.nextInt(3);
        }
        if (lot == 2) {
            return lots.nextBoolean() ? Integer.MIN_VALUE : Integer.MAX_VALUE;
        }
        return lots.nextInt(most + 1);
    }

    private int tile() {
        return upTo(roof.count(0) * roof.count(1) - 1);
    }

    private int gust() {
        return lots.nextInt(3) == 0 ? upTo(99) : upTo(40);
    }

    private int way() {
        return upTo(3);
    }

    private int door() {
        return upTo(Math.max(0, roof.count(3) - 1));
    }

    private int cell() {
        return 1000 * way() + 100 * upTo(5) + (lots.nextInt(4) == 0 ? upTo(19) : upTo(5));
    }

    private void newText() {
        String text = lots.nextInt(5) == 0 ? maker.wrong(8) : maker.right(10);
        if (text.length() + roof.count(8) > 2000 || roof.count(8) != 0) {
            same("read", roof.read(), oracle.read());
            same("place", roof.place(), oracle.place());
            return;
        }
        calls.add("text " + text);
        Check.feed(roof, text);
        oracle.put(text);
        same("read", roof.read(), oracle.read());
        same("place", roof.place(), oracle.place());
        small = roof.count(0) * roof.count(1) <= 12;
        for (int t = 0; t < roof.count(4); t++) {
            same("tile " + t, roof.tile(t, 1) + 2 * roof.tile(t, 2), oracle.tile(t, 1) + 2 * oracle.tile(t, 2));
        }
    }

    private void change() {
        int a = tile();
        int b = upTo(5);
        int g = gust();
        int w = way();
        boolean is = lots.nextBoolean();
        switch (lots.nextInt(16)) {
            case 0:
            case 1:
                int v = b == 1 || b == 2 ? upTo(1) : upTo(99);
                same("set(" + a + "," + b + "," + v + ")", roof.set(a, b, v), oracle.set(a, b, v));
                break;
            case 2:
                same("there(" + a + "," + is + ")", roof.there(a, is), oracle.there(a, is));
                break;
            case 3:
                int d = door();
                same("open(" + d + "," + is + ")", roof.open(d, is), oracle.open(d, is));
                break;
            case 4:
                same("felt " + is, roof.felt(is), oracle.felt(is));
                break;
            case 5:
            case 6:
                same("blow(" + g + "," + w + ")", roof.blow(g, w), oracle.blow(g, w));
                break;
            case 7:
                if (lots.nextInt(4) == 0) {
                    same("sweep", roof.sweep(), oracle.sweep());
                }
                break;
            case 8:
                int c = cell();
                same("car " + c, roof.car(c), oracle.car(c));
                break;
            case 9:
            case 10:
                int weight = 1 + upTo(8);
                same("gust(" + g + "," + w + "," + weight + ")", roof.gust(g, w, weight), oracle.gust(g, w, weight));
                break;
            case 11:
                if (lots.nextInt(4) == 0) {
                    same("calm", roof.calm(), oracle.calm());
                }
                break;
            case 12:
                int s = upTo(2);
                same("hold " + s, roof.hold(s), oracle.hold(s));
                break;
            case 13:
                int r = upTo(2);
                same("restore " + r, roof.restore(r), oracle.restore(r));
                break;
            case 14:
                int[] h = {upTo(99), way(), upTo(9), lots.nextBoolean() ? upTo(3) : upTo(99)};
                same("house(" + h[0] + "," + h[1] + "," + h[2] + "," + h[3] + ")", roof.house(h[0], h[1], h[2], h[3]), oracle.house(h[0], h[1], h[2], h[3]));
                break;
            default:
                int f = upTo(Math.max(0, roof.count(5) - 1));
                same("annul " + f, roof.annul(f), oracle.annul(f));
                break;
        }
    }

    private void askRoof() {
        int t = tile();
        int g = gust();
        int w = way();
        int b = upTo(5);
        int d = door();
        boolean is = lots.nextBoolean();
        String at = "(tile " + t + ", gust " + g + ", way " + w + ", " + b + ", door " + d + ", " + is + ")";
        switch (lots.nextInt(16)) {
            case 0: same("tile" + at, roof.tile(t, b), oracle.tile(t, b)); break;
            case 1: same("door" + at, roof.door(d, b), oracle.door(d, b)); break;
            case 2: same("inlet" + at, roof.inlet(w, b), oracle.inlet(w, b)); break;
            case 3: same("lift" + at, roof.lift(t, g, w, b), oracle.lift(t, g, w, b)); break;
            case 4: same("goes" + at, roof.goes(t, w, is), oracle.goes(t, w, is)); break;
            case 5: same("first" + at, roof.first(w, is), oracle.first(w, is)); break;
            case 6: same("fall" + at, roof.fall(g, w, b), oracle.fall(g, w, b)); break;
            case 7: same("fallen" + at, roof.fallen(g, w, b), oracle.fallen(g, w, b)); break;
            case 8: same("round" + at, roof.round(t, g, w), oracle.round(t, g, w)); break;
            case 9: same("lands" + at, roof.lands(t, g, w), oracle.lands(t, g, w)); break;
            case 10:
                int c = cell();
                same("yard " + c, roof.yard(c), oracle.yard(c));
                break;
            case 11: same("hits " + b, roof.hits(b), oracle.hits(b)); break;
            case 12: same("worst" + at, roof.worst(g, w), oracle.worst(g, w)); break;
            case 13: same("helps" + at, roof.helps(d, g, w), oracle.helps(d, g, w)); break;
            case 14: same("neglect" + at, roof.neglect(g, w), oracle.neglect(g, w)); break;
            default:
                int what = upTo(16);
                same("count " + what, roof.count(what), oracle.count(what));
                break;
        }
    }

    private void askPlans() {
        int g = gust();
        int w = way();
        int d = door();
        int i = upTo(12);
        int seed = lots.nextInt();
        int few = small ? lots.nextInt(4) : 0;
        switch (lots.nextInt(14)) {
            case 0: same("harm", roof.harm(), oracle.harm()); break;
            case 1: same("doors(" + g + "," + w + ")", roof.doors(g, w), oracle.doors(g, w)); break;
            case 2: same("ever(" + d + "," + w + ")", roof.ever(d, w), oracle.ever(d, w)); break;
            case 3:
                int n = few > 2 ? upTo(2) : few > 0 ? upTo(1) : 0;
                same("nailing " + n, roof.nailing(n), oracle.nailing(n));
                int nth = upTo(1);
                same("nailingAt(" + n + "," + nth + ")", roof.nailingAt(n, nth), oracle.nailingAt(n, nth));
                break;
            case 4:
                int steps = few > 2 ? upTo(12) : upTo(2);
                same("onebyone " + steps, roof.onebyone(steps), oracle.onebyone(steps));
                int step = upTo(3);
                same("onebyoneAt(" + steps + "," + step + ")", roof.onebyoneAt(steps, step), oracle.onebyoneAt(steps, step));
                break;
            case 5:
                int what = upTo(2);
                same("without " + what, roof.without(what), oracle.without(what));
                break;
            case 6:
                int many = lots.nextBoolean() ? upTo(36) : 1 + upTo(6);
                same("night " + many, roof.night(many), oracle.night(many));
                break;
            case 7:
                int k = upTo(60);
                same("years(" + seed + "," + k + ")", roof.years(seed, k), oracle.years(seed, k));
                break;
            case 8: same("lasts " + seed, roof.lasts(seed), oracle.lasts(seed)); break;
            case 9:
                int seeds = few > 2 ? 1 + upTo(49) : 1 + upTo(2);
                int years = upTo(few > 2 ? 12 : 60);
                int gone = upTo(36) / 3;
                same("odds(" + seed + "," + seeds + "," + years + "," + gone + ")", roof.odds(seed, seeds, years, gone), oracle.odds(seed, seeds, years, gone));
                break;
            case 10:
                int tells = few > 1 ? upTo(3) : 4;
                same("yardTells " + tells, roof.yardTells(tells), oracle.yardTells(tells));
                break;
            default: askVillage(); break;
        }
    }

    private void askVillage() {
        int n = lots.nextInt(3) > 0 ? roof.count(5) : upTo(roof.count(5));
        int c = lots.nextBoolean() ? upTo(3) : upTo(99);
        boolean is = lots.nextBoolean();
        int what = upTo(3);
        String at = "(" + n + "," + c + "," + what + "," + is + ")";
        switch (lots.nextInt(4)) {
            case 0: same("village" + at, roof.village(n, c, what), oracle.village(n, c, what)); break;
            case 1: same("villageWays" + at, roof.villageWays(n, c, is), oracle.villageWays(n, c, is)); break;
            case 2: same("line" + at, roof.line(n, c, is), oracle.line(n, c, is)); break;
            default:
                int age = upTo(99);
                int nails = upTo(9);
                int w = way();
                same("warned(" + age + "," + w + "," + nails + ")", roof.warned(age, w, nails), oracle.warned(age, w, nails));
                break;
        }
    }

    private void feedOrBack() {
        if (lots.nextInt(3) == 0) {
            int n = lots.nextBoolean() ? upTo(50) : roof.count(8);
            same("back " + n, roof.back(n), oracle.back(n));
            return;
        }
        int a = lots.nextInt();
        int b = lots.nextInt();
        int c = 0x6c617020 + lots.nextInt(3);
        same("feed", roof.feed(a, b, c, a, b), oracle.feed(a, b, c, a, b));
    }

    private void run(int length) {
        if (lots.nextInt(6) > 0) {
            newText();
        }
        for (int i = 0; i < length && check.allRight(); i++) {
            int lot = lots.nextInt(100);
            if (lot < 3) {
                newText();
            } else if (lot < 5) {
                feedOrBack();
            } else if (lot < 40) {
                change();
            } else if (lot < 70) {
                askRoof();
            } else {
                askPlans();
            }
        }
    }

    public static void main(String[] args) {
        Check check = new Check("RandomRunsTest");
        int runs = args.length > 0 ? Integer.parseInt(args[0]) : 2000;
        long from = args.length > 1 ? Long.parseLong(args[1]) : 1;
        for (long seed = from; seed < from + runs && check.allRight(); seed++) {
            new RandomRunsTest(check, seed).run(80);
        }
        check.end();
    }
}
