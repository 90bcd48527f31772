/** Counts answers that are not the ones due, and feeds texts. */
final class Check {
    private final String name;
    private int calls;
    private int wrong;

    Check(String name) {
        this.name = name;
    }

    void due(String call, long got, long want) {
        calls++;
        if (got != want) {
            wrong++;
            System.out.println(name + ": " + call + " answered " + got + ", due is " + want);
        }
    }

    void due(String call, boolean got, boolean want) {
        due(call, got ? 1 : 0, want ? 1 : 0);
    }

    void due(String what, String got, String want) {
        calls++;
        if (!got.equals(want)) {
            wrong++;
            System.out.println(name + ": " + what + " answered " + got + ", due is " + want);
        }
    }

    boolean allRight() {
        return wrong == 0;
    }

    void end() {
        System.out.println(name + ": " + calls + " answers looked at, " + wrong + " not as due");
        if (wrong != 0 || calls == 0) {
            System.exit(1);
        }
    }

    /** Feeds a text of at most 2,000 characters 0 .. 255, twenty at a time, and takes back the filling. */
    static int feed(GaleRoof roof, String text) {
        StringBuilder filled = new StringBuilder(text);
        while (filled.length() % 20 != 0) {
            filled.append(' ');
        }
        for (int i = 0; i < filled.length(); i += 20) {
            roof.feed(four(filled, i), four(filled, i + 4), four(filled, i + 8), four(filled, i + 12), four(filled, i + 16));
        }
        return roof.back(filled.length() - text.length());
    }

    private static int four(CharSequence text, int at) {
        int all = 0;
        for (int i = 0; i < 4; i++) {
            all = all << 8 | text.charAt(at + i) & 255;
        }
        return all;
    }

    static int read(GaleRoof roof, String text) {
        feed(roof, text);
        return roof.read();
    }

    static GaleRoof told(String text) {
        GaleRoof roof = new GaleRoof();
        if (read(roof, text) != 0) {
            throw new IllegalStateException("a test's text has a FAULT at " + roof.place() + ": " + text);
        }
        return roof;
    }

    /** LOT n of a SEED and a which, from the document's words. */
    static int lot(int n, int seed, int which) {
        int h = seed;
        h = (h ^ 16) * 1103515245 + 12345;
        h ^= h >>> 15;
        h = (h ^ which) * 1103515245 + 12345;
        h ^= h >>> 15;
        return (h >>> 1) % n;
    }
}
