import java.util.ArrayList;
import java.util.List;
import java.util.Random;

/** Texts by lots: right ones, and ones with a FAULT somewhere. */
final class TextMaker {
    private static final String[] VARS = {"row", "col", "third", "edge", "bare", "holes", "inlet", "outlet", "gust", "way", "age", "grown", "nails"};
    private static final String[] STRAYS = {"roof", "weigh", "nailed", "if", "or", "and", "not", "open", "door", "suck", "far", "row", "nails", "abc", "abcdefgh", "abcdefghi", "0", "7", "100", "1234", "12345", ";", "=", "+", "-", "*", "/", "==", "!=", "<", "<=", "(", ")", "!", ".", "A", "\u00e9", "\u0000", "\t", "\r\n"};
    private final Random lots;

    TextMaker(Random lots) {
        this.lots = lots;
    }

    private String one(String... of) {
        return of[lots.nextInt(of.length)];
    }

    String unit(int deep) {
        int lot = lots.nextInt(10);
        if (deep > 0 && lot < 3) {
            return "( " + sum(deep - 1) + " )";
        }
        if (lot < 6) {
            return "" + lots.nextInt(one("a", "b", "c").equals("a") ? 10000 : 12);
        }
        return one(VARS);
    }

    String part(int deep) {
        StringBuilder s = new StringBuilder(unit(deep));
        while (lots.nextInt(3) == 0) {
            s.append(' ').append(one("*", "/")).append(' ').append(unit(deep));
        }
        return s.toString();
    }

    String sum(int deep) {
        StringBuilder s = new StringBuilder(part(deep));
        while (lots.nextInt(3) == 0) {
            s.append(' ').append(one("+", "-")).append(' ').append(part(deep));
        }
        return s.toString();
    }

    String lit() {
        String s = lots.nextInt(3) == 0 ? one("not ", "not not ", "not not not ") : "";
        return s + sum(1) + " " + one("==", "!=", "<", "<=") + " " + sum(1);
    }

    String cond() {
        StringBuilder s = new StringBuilder(lit());
        while (lots.nextInt(3) == 0) {
            s.append(' ').append(one("and", "or")).append(' ').append(lit());
        }
        return s.toString();
    }

    private String likelyLaw(String which) {
        switch (which) {
            case "suck": return one("gust + gust * edge / 3", "gust * (2 + bare) / 2", "gust + bare * 7 - row * 2", "gust * (1 + third) / 2 + holes", "100 - gust", "gust + age - nails * 20");
            case "press": return one("gust * inlet / 5 - outlet", "(inlet - outlet) * gust / 7", "inlet * inlet - way * 5", "10 / outlet + gust / 2");
            case "holds": return one("grown / 2 - age / 3", "10 - age / 4 - bare * 3", "row * col", "nails * 5 - holes", "99 - gust * 2");
            default: return one("gust / 5 + row", "bare * 4 + third", "gust - 30", "30 / col", "holes + inlet");
        }
    }

    private String tell(int doors) {
        switch (lots.nextInt(8)) {
            case 0: return "roof " + size() + " " + size() + " " + lots.nextInt(4) + ";";
            case 1: return one("weigh", "lap", "nail", "clip", "years", "moss") + " " + lots.nextInt(lots.nextBoolean() ? 100 : 12) + ";";
            case 2: return one("nailed", "clipped") + " if " + cond() + ";";
            case 3: return "warn if " + one(cond(), "age < " + lots.nextInt(100), "nails <= " + lots.nextInt(10), "way == " + lots.nextInt(4)) + ";";
            case 4:
            case 5:
                String law = one("suck", "press", "holds", "far");
                return law + " = " + (lots.nextInt(3) == 0 ? sum(2) : likelyLaw(law)) + ";";
            default: return "door " + (char) ('a' + doors) + one("", "x", "door") + " " + lots.nextInt(4) + " " + (1 + lots.nextInt(9)) + one("", " open") + ";";
        }
    }

    private int size() {
        return 2 + (lots.nextInt(4) == 0 ? lots.nextInt(5) : lots.nextInt(3));
    }

    String right(int most) {
        List<String> tells = new ArrayList<>();
        int doors = 0;
        for (int i = lots.nextInt(most + 1); i > 0; i--) {
            String tell = tell(doors);
            doors += tell.startsWith("door") ? 1 : 0;
            if (doors <= 6 || !tell.startsWith("door")) {
                tells.add(tell);
            }
        }
        return String.join(one(" ", "", "\n", "\t\r "), tells);
    }

    /** One or two TOKENS, signs or blanks put in, left out or put in place of others. */
    String wrong(int most) {
        StringBuilder s = new StringBuilder(right(most));
        for (int i = lots.nextInt(3); i >= 0; i--) {
            int at = lots.nextInt(s.length() + 1);
            int to = Math.min(s.length(), at + (lots.nextBoolean() ? 0 : lots.nextInt(5)));
            s.replace(at, to, lots.nextInt(4) == 0 ? "" : one("", " ") + one(STRAYS) + one("", " "));
        }
        return s.toString();
    }
}
