import java.util.Random;

/** read() and place() on texts by lots, against the document's grammar itself. */
public final class FaultsTest {
    private static void same(Check check, String text) {
        if (text.length() > 2000) {
            return;
        }
        GaleRoof roof = new GaleRoof();
        Oracle oracle = new Oracle();
        Check.feed(roof, text);
        oracle.put(text);
        check.due("bytes of " + text, roof.count(8), text.length());
        check.due("read of " + text, roof.read(), oracle.read());
        check.due("place of " + text, roof.place(), oracle.place());
        for (int what = 0; what < 18; what++) {
            check.due("count(" + what + ") behind " + text, roof.count(what), oracle.count(what));
        }
    }

    public static void main(String[] args) {
        Check check = new Check("FaultsTest");
        Random lots = new Random(20261118);
        TextMaker maker = new TextMaker(lots);
        for (int i = 0; i < 6000; i++) {
            same(check, i % 3 == 0 ? maker.right(12) : maker.wrong(8));
        }
        // Around the 400th TOKEN, whatever it is.
        for (int tokens = 396; tokens <= 403; tokens++) {
            for (String last : new String[] {"", ";", "lap", "abc", "=", "99999", "nailed", ")", "("}) {
                StringBuilder text = new StringBuilder();
                for (int i = 0; i < tokens / 3; i++) {
                    text.append("lap1;");
                }
                text.append("lap 1".substring(0, tokens % 3 == 0 ? 0 : tokens % 3 == 1 ? 3 : 5)).append(' ').append(last);
                same(check, text.toString());
                same(check, text.toString() + "  ");
                same(check, text.toString() + " abc");
            }
        }
        // Brackets within one another, and more of a sort than there may be.
        for (int deep = 5; deep <= 8; deep++) {
            String open = "(".repeat(deep);
            String shut = ")".repeat(deep);
            same(check, "far=" + open + "1" + shut + ";");
            same(check, "far=" + open + "1" + shut + "*(2);");
            same(check, "far=" + open + shut);
            same(check, "warn if 1<" + open + "1" + shut + " and " + open + "1" + shut + "==(1);");
            same(check, "warn if (" + open + "1==1" + shut + ";");
            for (String tell : new String[] {"nailed if 1==1;", "clipped if row<2;", "warn if not age==3;"}) {
                same(check, tell.repeat(deep));
                same(check, tell.repeat(deep) + "nailed");
                same(check, tell.repeat(deep) + "door");
                same(check, "nailed if 1<1;" + tell.repeat(deep) + "lap 100;");
            }
            StringBuilder doors = new StringBuilder();
            for (int d = 0; d < deep; d++) {
                doors.append("door d").append((char) ('a' + d)).append(" 0 1;");
            }
            same(check, doors.toString());
            same(check, doors + "door");
            same(check, doors + "abc");
            same(check, "door da 0 1;" + doors);
        }
        check.end();
    }
}
