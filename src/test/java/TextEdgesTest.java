/** Promises 1 to 5 and what they lean on, edge by edge: the tape, TOKENS, the grammar, FAULTS with their places. */
public final class TextEdgesTest {
    private static final int LOW = Integer.MIN_VALUE;
    private static final int HIGH = Integer.MAX_VALUE;
    private static final int BLANKS = 0x20202020;
    private static final String[] WORDS = ("roof weigh lap nail clip years moss nailed clipped warn suck press holds far door open if or and not"
        + " row col third edge bare holes inlet outlet gust way age grown nails").split(" ");
    private static final String[] AMOUNTS = {"weigh", "lap", "nail", "clip"};
    private static final String[] LAWS = {"suck", "press", "holds", "far"};
    private static final String[] SORTS = {"nailed", "clipped", "warn"};

    private final Check check = new Check("TextEdgesTest");

    private void due(String call, long got, long want) {
        check.due(call, got, want);
    }

    private void due(String call, boolean got, boolean want) {
        check.due(call, got, want);
    }

    private void fault(String text, int number, int place) {
        GaleRoof x = new GaleRoof();
        due("read of " + text, Check.read(x, text), number);
        due("place of " + text, x.place(), place);
        due("an empty tape behind " + text, x.count(8), 0);
    }

    private void right(String text) {
        fault(text, 0, -1);
    }

    // ---- Promise 1

    private void newIsAsAnEmptyText() {
        String fresh = Look.at(x -> { });
        check.due("new, as if an empty text had been read", Look.at(GaleRoof::read), fresh);
        check.due("an empty text in place of another", Look.at(x -> {
            Check.read(x, "roof 6 6 3; weigh 1; lap 2; nail 3; clip 4; years 5; moss 6; nailed if 1 == 1; clipped if 1 == 1; warn if 1 == 1;"
                + "suck = 1; press = 2; holds = 3; far = 4; door a 0 1 open; door b 1 2;");
            x.felt(true);
            x.car(0);
            x.gust(1, 1, 1);
            x.there(35, false);
            x.set(0, 3, 50);
            x.open(1, true);
            x.hold(0);
            x.hold(1);
            x.hold(2);
            x.blow(99, 1);
            x.read();
        }), fresh);
        check.due("a text of blanks is an empty one", Look.at(x -> Check.read(x, " \t\n\r ")), fresh);
        int[] counts = {4, 4, 0, 0, 16, 0, 0, 0, 0, 0, 0, 0, 0, 20, 5, 30, 25};
        for (int i = 0; i < counts.length; i++) {
            due("new: count " + i, new GaleRoof().count(i), counts[i]);
        }
        GaleRoof x = new GaleRoof();
        for (int t = 0; t < 16; t++) {
            due("new: there", x.tile(t, 0), 1);
            due("new: NAILED, CLIPPED, AGE, MOSS", x.tile(t, 1) + x.tile(t, 2) + x.tile(t, 3) + x.tile(t, 4), 0);
        }
        due("no FACTS", x.count(5), 0);
        due("no FACTS", x.village(0, 0, 0), 0);
        due("no FACTS", x.village(1, 0, 0), -1);
        due("no FACTS", x.annul(0), -1);
        due("new: 16 TILES, the last", x.tile(15, 0), 1);
        due("new: 16 TILES, no 17th", x.tile(16, 0), -1);
    }

    // ---- Promises 2 and 3

    private void feedPutsTwentyBytesInOrder() {
        // Twenty bytes without a blank at either end: each stands where it has to.
        GaleRoof x = new GaleRoof();
        due("feed", x.feed(0x726f6f66, 0x20322035, 0x20333b77, 0x65696768, 0x2034373b), 20);
        due("read of \"roof 2 5 3;weigh 47;\"", x.read(), 0);
        due("ROWS, COLS, FACES, WEIGH", x.count(0) * 10000 + x.count(1) * 1000 + x.count(2) * 100 + x.count(13), 25347);
        for (int i = 0; i < 20; i++) {
            // A lone sign that is no TOKEN, at each place in turn.
            int[] four = {BLANKS, BLANKS, BLANKS, BLANKS, BLANKS};
            four[i / 4] ^= 0x01 << 24 - 8 * (i % 4);
            GaleRoof y = new GaleRoof();
            y.feed(four[0], four[1], four[2], four[3], four[4]);
            due("FAULT of byte " + i, y.read(), 1);
            due("place of byte " + i, y.place(), i);
        }
        GaleRoof z = new GaleRoof();
        due("bytes of 255", z.feed(-1, -1, -1, -1, -1), 20);
        due("bytes of 255", z.read(), 1);
        due("bytes of 255", z.place(), 0);
    }

    private void tapeTakesTwoThousand() {
        GaleRoof x = new GaleRoof();
        for (int i = 1; i <= 99; i++) {
            due("feed", x.feed(BLANKS, BLANKS, BLANKS, BLANKS, BLANKS), 20 * i);
        }
        due("1,980 bytes", x.count(8), 1980);
        due("20 more are 2,000", x.feed(BLANKS, BLANKS, BLANKS, 0x20206c61, 0x7020373b), 2000);
        due("no more", x.feed(BLANKS, BLANKS, BLANKS, 0x20206c61, 0x7020383b), -1);
        due("nothing comes", x.count(8), 2000);
        due("a text of 2,000 bytes", x.read(), 0);
        due("its last TELL", x.count(14), 7);
        due("the tape is empty", x.count(8), 0);
        for (int i = 1; i <= 100; i++) {
            x.feed(BLANKS, BLANKS, BLANKS, BLANKS, BLANKS);
        }
        due("back of 19", x.back(19), 1981);
        due("20 more would be 2,001", x.feed(0, 0, 0, 0, 0), -1);
        due("still 1,981", x.count(8), 1981);
        due("back of 1", x.back(1), 1980);
        due("20 more are 2,000 again", x.feed(BLANKS, BLANKS, BLANKS, BLANKS, 0x20202021), 2000);
        due("the last of 2,000 bytes is none", x.read(), 1);
        due("its place", x.place(), 1999);
        for (int i = 1; i <= 99; i++) {
            x.feed(BLANKS, BLANKS, BLANKS, BLANKS, BLANKS);
        }
        due("2,000", x.feed(BLANKS, BLANKS, BLANKS, BLANKS, 0x206c6170), 2000);
        due("back of 2,001", x.back(2001), -1);
        due("nothing goes", x.count(8), 2000);
        due("the end of 2,000 bytes", x.read(), 1);
        due("its place", x.place(), 2000);
    }

    private void backTakesTheLast() {
        GaleRoof x = new GaleRoof();
        due("none of none", x.back(0), 0);
        due("one of none", x.back(1), -1);
        Check.feed(x, "lap 17;moss 5;");
        due("none", x.back(0), 14);
        for (int n : new int[] {15, 16, 34, 2000, HIGH, -1, -14, LOW}) {
            due("back(" + n + ")", x.back(n), -1);
            due("nothing goes", x.count(8), 14);
        }
        due("the last nine", x.back(9), 5);
        due("six of five", x.back(6), -1);
        Check.feed(x, ";");
        due("what is left stands", x.read(), 0);
        due("LAP", x.count(14), 1);
        due("MOSS", x.tile(0, 4), 0);
        Check.feed(x, "!lap 3;");
        due("all", x.back(7), 0);
        due("an empty text", x.read(), 0);
        due("LAP", x.count(14), 5);
        x.feed(BLANKS, BLANKS, BLANKS, BLANKS, BLANKS);
        due("all of twenty", x.back(20), 0);
        due("one of none", x.back(1), -1);
    }

    /** What went by back() or read() is not there any more, whatever could have gone on with it. */
    private void whatWentIsNotRead() {
        String[] texts = {"lap 12", "lap 1;", "suck=1+", "far==1", "door ab", "door a 0 1 open", "lap 1;  ", "lap 9;!", "far=((", "warn if 1<="};
        int[] gone = {1, 1, 1, 2, 1, 4, 2, 1, 1, 1};
        int[] faults = {1, 1, 1, 1, 1, 1, 0, 0, 1, 1};
        for (int i = 0; i < texts.length; i++) {
            GaleRoof x = new GaleRoof();
            Check.feed(x, texts[i]);
            int left = texts[i].length() - gone[i];
            due("back of " + texts[i], x.back(gone[i]), left);
            due("read of what is left of " + texts[i], x.read(), faults[i]);
            due("place: its end", x.place(), faults[i] == 0 ? -1 : left);
            Check.feed(x, texts[i]);
            x.read();
            due("an empty tape behind " + texts[i], x.read(), 0);
            due("no FAULT", x.place(), -1);
        }
        GaleRoof y = new GaleRoof();
        for (int i = 0; i < 100; i++) {
            y.feed(0x39393939, 0x39393939, 0x39393939, 0x39393939, 0x39393939);
        }
        due("nines", y.read(), 1);
        Check.feed(y, "lap 9");
        due("no nine behind it", y.read(), 1);
        due("its end", y.place(), 5);
        due("LAP as it was", y.count(14), 5);
    }

    // ---- Promise 5

    private void placeIsOfTheLatestRead() {
        GaleRoof x = new GaleRoof();
        due("new", x.place(), -1);
        Check.read(x, ";");
        due("the first byte", x.place(), 0);
        due("asked again", x.place(), 0);
        Check.feed(x, "lap");
        due("a feed is no read", x.place(), 0);
        x.back(0);
        x.back(99);
        due("nor is a back", x.place(), 0);
        x.read();
        due("the text's end", x.place(), 3);
        Check.read(x, "lap 100;");
        due("another FAULT", x.place(), 4);
        x.read();
        due("none by an empty text", x.place(), -1);
        Check.read(x, " !");
        x.hold(0);
        x.restore(0);
        due("restore is no read", x.place(), 1);
        Check.read(x, "lap 1;");
        due("none by a right text", x.place(), -1);
    }

    // ---- TOKENS

    /** Every byte between an INT and a ';', and every byte alone. */
    private void everyByte() {
        for (int b = 0; b < 256; b++) {
            boolean blank = b == 9 || b == 10 || b == 13 || b == 32;
            boolean digit = b >= '0' && b <= '9';
            String sign = String.valueOf((char) b);
            GaleRoof x = new GaleRoof();
            int fault = Check.read(x, "lap 9" + sign + ";");
            if (blank) {
                due("byte " + b + " is a blank", fault * 100 + x.count(14), 9);
            } else if (digit) {
                due("byte " + b + " is a digit", fault * 100 + x.count(14), 90 + b - '0');
            } else {
                due("byte " + b + " behind an INT", fault, 1);
                due("place of byte " + b + " behind an INT", x.place(), b == ';' ? 6 : 5);
            }
            fault(sign, blank ? 0 : 1, blank ? -1 : 0);
            boolean letter = b >= 'a' && b <= 'z';
            fault("door a" + sign + " 0 1;", blank || letter ? 0 : 1, blank || letter ? -1 : digit ? 10 : 6);
        }
    }

    private void blanksBetweenOrNot() {
        right("roof 2 2 0;lap9;nail8;door a0 1open;door b 3 9;far=row+1*(2-col)/3;warn if1==1and not2<3or4<=5;");
        right("\troof\n2\r3 0 ; lap\t9\n; far\r=\n1 ;\r\n");
        fault("la p 9;", 1, 0);
        fault("lap 1 2;", 1, 6);
        fault("warn if 1 = = 1;", 1, 10);
        fault("warn if 1 < = 1;", 1, 12);
        fault("warn if 1 ! = 1;", 1, 10);
        fault("warn ifrow == 1;", 1, 5);
        fault("roof 222;", 1, 8);
    }

    private void namesAndInts() {
        for (String word : WORDS) {
            fault("door " + word + " 0 1;", 1, 5);
            right("door " + (word + "zzzzzzz").substring(0, 8) + " 0 1;");
            if (word.length() > 2) {
                String shorter = word.substring(0, word.length() - 1);
                boolean isWord = String.join(" ", WORDS).matches("(.* )?" + shorter + "( .*)?");
                fault("door " + shorter + " 0 1;", isWord ? 1 : 0, isWord ? 5 : -1);
            }
        }
        right("door a 0 1;");
        right("door abcdefgh 0 1;");
        right("door zzzzzzzz 0 1;");
        fault("door abcdefghi 0 1;", 1, 5);
        fault("door abcdefghijklmnopqrstuvwxyzabcdefghijklmnopqrstuvwxyz 0 1;", 1, 5);
        // Nine letters that begin with a word are no TOKEN, eight are a NAME.
        fault("nailedif 1 == 1;", 1, 0);
        fault("doorabcde 0 1;", 1, 0);
        fault("suck = outletsss;", 1, 7);
        right("lap 0;");
        right("lap 0099;");
        fault("lap 00099;", 1, 4);
        fault("lap 00000;", 1, 4);
        right("suck = 9999;");
        fault("suck = 10000;", 1, 7);
        fault("suck = 12345678901234567890;", 1, 7);
        fault("suck = 1.5;", 1, 8);
        fault("suck = -1;", 1, 7);
        fault("suck = +1;", 1, 7);
    }

    private void longestSigns() {
        right("warn if row<=1;");
        right("warn if row!=1;");
        fault("warn if row<==1;", 1, 13);
        fault("warn if row===1;", 1, 13);
        fault("warn if row!==1;", 1, 13);
        fault("warn if row<<1;", 1, 12);
        fault("warn if row=<1;", 1, 11);
        fault("warn if row>1;", 1, 11);
        fault("warn if row>=1;", 1, 11);
        fault("warn if row!1;", 1, 11);
        fault("far==1;", 1, 3);
        fault("far=!1;", 1, 4);
        fault("far=1!", 1, 5);
        fault("far=1!=2;", 1, 5);
        fault("far=<1;", 1, 4);
        fault("lap 1,", 1, 5);
    }

    // ---- the grammar: at each place the TOKENS that fit, and no other

    private static final String ANY = "roof lap moss nailed warn suck far door if or and not row nails open abc 7 ; = + - * / == != < <= ( ) ! 12345 abcdefghi";

    /** A row of TOKENS, and at each place which of ANY the document lets stand there. */
    private void grammarRow(String[] tokens, String[] fits) {
        StringBuilder text = new StringBuilder();
        for (int i = 0; i < tokens.length; i++) {
            String[] may = fits[i].split(" ");
            for (String other : ANY.split(" ")) {
                boolean fit = java.util.Arrays.asList(may).contains(other);
                GaleRoof x = new GaleRoof();
                int fault = Check.read(x, text + other + " ");
                boolean refused = fault == 1 && x.place() == text.length();
                due("'" + other + "' behind '" + text + "' is refused", refused, !fit);
            }
            if (text.length() > 0) {
                fault(text.toString(), tokens[i].equals(";END") ? 0 : 1, tokens[i].equals(";END") ? -1 : text.length());
                fault(text + " \n ", tokens[i].equals(";END") ? 0 : 1, tokens[i].equals(";END") ? -1 : text.length() + 3);
            }
            text.append(tokens[i]).append(' ');
        }
    }

    private void grammarRows() {
        String tells = "roof lap moss nailed warn suck far door";
        String unit = "7 row nails (";
        String lit = unit + " not";
        String on = " + - * /";
        grammarRow(new String[] {"roof", "2", "2", "0", ";", ";END"}, new String[] {tells, "7", "7", "7", ";", tells});
        for (String amount : new String[] {"weigh", "lap", "nail", "clip", "years", "moss"}) {
            grammarRow(new String[] {amount, "1", ";", ";END"}, new String[] {tells, "7", ";", tells});
        }
        grammarRow(new String[] {"door", "a", "0", "1", ";", ";END"}, new String[] {tells, "abc", "7", "7", "; open", tells});
        grammarRow(new String[] {"door", "a", "0", "1", "open", ";", ";END"}, new String[] {tells, "abc", "7", "7", "; open", ";", tells});
        for (String law : LAWS) {
            grammarRow(new String[] {law, "=", "1", "+", "(", "row", "/", "2", ")", "*", "3", "-", "age", ";", ";END"},
                new String[] {tells, "=", unit, ";" + on, unit, unit, ")" + on, unit, ")" + on, ";" + on, unit, ";" + on, unit, ";" + on, tells});
        }
        for (String sort : SORTS) {
            String compare = "== != < <=" + on;
            String behind = "; and or" + on;
            grammarRow(new String[] {sort, "if", "not", "not", "1", "==", "2", "and", "(", "3", ")", "!=", "col", "or", "not", "4", "<", "5", "*", "6", "and", "7", "<=", "8", ";", ";END"},
                new String[] {tells, "if", lit, lit, lit, compare, unit, behind, lit, unit, ")" + on, compare, unit, behind, lit, lit, compare, unit, behind, unit, behind, lit, compare, unit, behind, tells});
        }
    }

    private void everyVarIsAUnit() {
        for (int i = 20; i < WORDS.length; i++) {
            right("far = " + WORDS[i] + ";");
            right("warn if " + WORDS[i] + " == (" + WORDS[i] + ");");
        }
        for (int i = 0; i < 20; i++) {
            fault("far = " + WORDS[i] + ";", 1, 6);
        }
        right("roof 2 2 0;".repeat(30));
        right("door a 0 1 open;");
        fault("door a 0 1 open open;", 1, 16);
        fault("warn if (1 == 1);", 1, 11);
        fault("warn if 1 < 2 < 3;", 1, 14);
        fault("warn if 1 < not 2;", 1, 12);
        right("warn if not(1)==1;");
        fault("warn if not (1 == 1);", 1, 15);
        fault("warn if 1;", 1, 9);
    }

    // ---- numbers of a TELL

    private void bounds() {
        for (int rows = 0; rows <= 8; rows++) {
            boolean taken = rows >= 2 && rows <= 6;
            fault("roof " + rows + " 2 0;", taken ? 0 : 5, taken ? -1 : 5);
            fault("roof 2 " + rows + " 0;", taken ? 0 : 5, taken ? -1 : 7);
            boolean side = rows <= 3;
            fault("roof 6 6 " + rows + ";", side ? 0 : 5, side ? -1 : 9);
            fault("door a " + rows + " 9;", side ? 0 : 5, side ? -1 : 7);
        }
        for (int size = 0; size <= 11; size++) {
            boolean taken = size >= 1 && size <= 9;
            fault("door a 3 " + size + ";", taken ? 0 : 5, taken ? -1 : 9);
            fault("door a 3 " + size + " open;", taken ? 0 : 5, taken ? -1 : 9);
        }
        for (String big : new String[] {"0007", "10", "16", "99", "100", "9999", "0000"}) {
            fault("roof " + big + " 2 0;", 5, 5);
            fault("roof 2 " + big + " 0;", 5, 7);
        }
        for (String big : new String[] {"0004", "10", "99", "100", "256", "9999"}) {
            fault("roof 2 2 " + big + ";", 5, 9);
            fault("door a " + big + " 1;", 5, 7);
        }
        for (String big : new String[] {"0000", "0010", "257", "9999"}) {
            fault("door a 0 " + big + ";", 5, 9);
        }
        right("roof 0002 0006 0003; door a 0003 0009;");
        for (int a = 0; a < AMOUNTS.length; a++) {
            for (int n : new int[] {0, 1, 98, 99}) {
                due(AMOUNTS[a] + " " + n, Check.told(AMOUNTS[a] + " " + n + ";").count(13 + a), n);
            }
        }
        for (int n : new int[] {0, 1, 98, 99}) {
            due("years " + n, Check.told("years " + n + ";").tile(15, 3), n);
            due("moss " + n, Check.told("moss " + n + ";").tile(15, 4), n);
        }
        for (String amount : new String[] {"weigh", "lap", "nail", "clip", "years", "moss"}) {
            fault(amount + " 100;", 5, amount.length() + 1);
            fault(amount + " 0100;", 5, amount.length() + 1);
            fault(amount + " 9999;", 5, amount.length() + 1);
        }
        for (String law : LAWS) {
            right(law + " = 100 + 9999 * 1000;");
        }
        for (String sort : SORTS) {
            right(sort + " if 100 == 9999;");
        }
    }

    private void theLastOneTold() {
        GaleRoof x = Check.told("roof 5 6 3; roof 3 2 1; weigh 1; weigh 2; lap 3; lap 4; nail 5; nail 6; clip 7; clip 8; years 9; years 10; moss 11; moss 12;");
        int[] want = {3, 2, 1, 0, 6};
        for (int i = 0; i < want.length; i++) {
            due("the last told, count " + i, x.count(i), want[i]);
        }
        for (int i = 0; i < 4; i++) {
            due("the last " + AMOUNTS[i], x.count(13 + i), 2 + 2 * i);
        }
        due("the last years", x.tile(0, 3), 10);
        due("the last moss", x.tile(0, 4), 12);
        GaleRoof y = Check.told("suck = 1; press = 2; holds = 3; far = 4; suck = 50; press = 60; holds = 7; far = 8; lap 0;");
        due("the last suck", y.lift(0, 9, 0, 0), 50);
        due("the last press", y.lift(0, 9, 0, 1), 60);
        due("the last holds", y.lift(0, 9, 0, 2), 27);
        due("the last far", y.lands(0, 9, 0), 2008);
        Check.read(x, "lap 1;");
        due("not told again: ROWS", x.count(0), 4);
        due("not told again: WEIGH", x.count(13), 20);
        due("told: LAP", x.count(14), 1);
        due("not told again: YEARS", x.tile(0, 3), 0);
        Check.read(y, "lap 1;");
        due("no laws: suck", y.lift(0, 9, 0, 0), 18);
        due("no laws: press", y.lift(0, 9, 0, 1), 0);
        due("no laws: holds", y.lift(0, 9, 0, 2), 21);
        due("no laws: far", y.lands(0, 99, 0), 2009);
        // RULES and DOORS are all of them told, none is the last.
        GaleRoof z = Check.told("nailed if col == 0; nailed if col == 1; door a 1 2; door b 3 4 open;");
        due("both RULES", z.tile(0, 1) * 100 + z.tile(1, 1) * 10 + z.tile(2, 1), 110);
        due("both DOORS", z.door(0, 0) * 1000 + z.door(0, 1) * 100 + z.door(1, 0) * 10 + z.door(1, 1), 1234);
    }

    /** A text is read as on a new object, whatever the two texts ahead of it told. */
    private void oneTextBehindTheOther() {
        String full = "roof 6 6 3; weigh 1; lap 2; nail 3; clip 4; years 5; moss 6; nailed if 1 == 1; clipped if 1 == 1; warn if 1 == 1;"
            + "suck = 1; press = 2; holds = 3; far = 4; door a 3 1 open; door b 1 2 open;";
        String[] texts = {"", "lap 5;", "door a 0 9; door b 2 8;", "suck = gust;", "press = 9; far = 9;", "warn if age == 3;", "nailed if row == 1; clipped if row == 2;", "roof 2 2 0;"};
        for (String text : texts) {
            String due = Look.at(x -> Check.read(x, text));
            check.due("'" + text + "' behind one", Look.at(x -> {
                Check.read(x, full);
                Check.read(x, text);
            }), due);
            check.due("'" + text + "' behind two", Look.at(x -> {
                Check.read(x, full);
                Check.read(x, full + "suck = 7;");
                Check.read(x, text);
            }), due);
            check.due("'" + text + "' behind one and an empty one", Look.at(x -> {
                Check.read(x, full);
                x.read();
                Check.read(x, text);
            }), due);
            check.due("'" + text + "' behind one with a FAULT", Look.at(x -> {
                Check.read(x, full + "lap 100;");
                Check.read(x, full.replace(";", " !"));
                Check.read(x, text);
            }), due);
        }
        // Each of many long ones is told whole.
        GaleRoof x = new GaleRoof();
        for (int i = 0; i < 9; i++) {
            due("a text of 400 TOKENS", Check.read(x, "suck=" + i + "+1".repeat(198) + ";"), 0);
            due("its law", x.lift(0, 50, 0, 0), i + 198);
            due("one with a FAULT", Check.read(x, "suck=1" + "+1".repeat(197) + "-gust;;"), 1);
            due("the law stays", x.lift(0, 50, 0, 0), i + 198);
        }
    }

    // ---- FAULT 2: ROOM

    /** A TELL set so that each of its TOKENS in turn is the 401st: it is one too many whatever it is. */
    private void eachTokenAsThe401st() {
        String[] tells = {
            "roof 2 2 0 ;", "lap 9 ;", "door a 0 1 ;", "door a 0 1 open ;", "far = 1 + ( 2 - row ) * 3 / ( ( 4 ) ) ;",
            "nailed if not not 1 == 2 and ( 3 ) != col or not 4 < 5 * 6 and 7 <= 8 + 9 ;", "clipped if 1 < 2 ;", "warn if ( age ) / 2 <= 1 or 2 == 3 ;"};
        for (String tell : tells) {
            String[] tokens = tell.split(" ");
            for (int k = 0; k < tokens.length; k++) {
                int ahead = 400 - k;
                int fours = ahead % 3;
                StringBuilder text = new StringBuilder("far=1;".repeat(fours) + "lap1;".repeat((ahead - 4 * fours) / 3));
                int place = 0;
                for (int i = 0; i < tokens.length; i++) {
                    text.append(' ');
                    place = i == k ? text.length() : place;
                    text.append(tokens[i]);
                }
                fault(text.toString(), 2, place);
                fault(text.substring(0, place + tokens[k].length()), 2, place);
                fault(text.substring(0, place), k == 0 ? 0 : 1, k == 0 ? -1 : place);
                fault(text.substring(0, place) + "!", 1, place);
            }
            // One TOKEN fewer ahead of it, and the whole TELL fits.
            int ahead = 400 - tokens.length;
            int fours = ahead % 3;
            right("far=1;".repeat(fours) + "lap1;".repeat((ahead - 4 * fours) / 3) + tell);
        }
    }

    private void fourHundredTokens() {
        String all = "far=1;".repeat(100);
        right(all);
        right(all + " \n ");
        fault(all + "far", 2, 600);
        fault(all + "  far", 2, 602);
        fault(all + "far=1;", 2, 600);
        fault(all + "roof", 2, 600);
        fault(all + "door", 2, 600);
        fault(all + "warn", 2, 600);
        fault(all + "far !", 2, 600);
        // With it no text goes on: SYNTAX is the lesser of one place.
        fault(all + ";", 1, 600);
        fault(all + "abc", 1, 600);
        fault(all + "7", 1, 600);
        fault(all + "!", 1, 600);
        fault(all + "abcdefghi", 1, 600);
        fault(all + "12345", 1, 600);
        String three = "far=1;".repeat(99);
        fault(three + "far=1", 1, 599);
        fault(three + "far=1+", 1, 600);
        fault(three + "far=1+2", 2, 600);
        fault(three + "far=1+(", 2, 600);
        fault(three + "far=1+)", 1, 600);
        fault(three + "far=1+2;", 2, 600);
        fault(three + "far=12;", 0, -1);
        fault(three + "far=1+;", 1, 600);
        fault(three + "lap 1", 1, 599);
        fault(three + "lap 1;", 0, -1);
        fault(three + "lap 1;lap", 1, 603);
        fault(three + "lap 1;lap 1", 2, 604);
        // By place: what comes ahead counts, what comes later does not.
        fault("lap;" + all, 1, 3);
        fault("lap 100;" + all + "far", 2, 605);
        fault("door a 0 1;door a 0 1;" + "far=1;".repeat(96) + "far=1;", 3, 16);
        fault("door a 0 1;door a 0 1;" + "far=1;".repeat(97) + "far=1;", 2, 22 + 582 + 4);
        fault("warn if 1==1;".repeat(6) + "far=1;".repeat(91), 0, -1);
        fault("warn if 1==1;".repeat(7) + "far=1;".repeat(91), 2, 78);
        fault("far=1;".repeat(91) + "warn if 1==1;".repeat(7), 2, 546 + 78);
        // One law, one COND of all 400 TOKENS.
        GaleRoof x = Check.told("suck=1" + "+1".repeat(198) + ";");
        due("a law of 400 TOKENS", x.lift(0, 50, 0, 0), 199);
        fault("suck=1" + "+1".repeat(199) + ";", 2, 5 + 398);
        due("a COND of 400 TOKENS", Check.told("nailed if" + " not".repeat(394) + " 1==1;").tile(0, 1), 1);
        due("a COND of 399 TOKENS", Check.told("nailed if" + " not".repeat(393) + " 1==1;").tile(0, 1), 0);
        fault("nailed if" + " not".repeat(395) + " 1==1;", 2, 9 + 4 * 395 + 1 + 4);
        due("ALLs of 400 TOKENS", Check.told("nailed if not not 1<0" + " or 1<0".repeat(97) + " or 0<1;").tile(15, 1), 1);
        due("an ALL of 400 TOKENS", Check.told("nailed if not not 0<1" + " and 0<1".repeat(97) + " and 1<0;").tile(15, 1), 0);
    }

    private void sixOfASort() {
        for (String sort : SORTS) {
            String rule = sort + " if 1==1;";
            right(rule.repeat(6));
            fault(rule.repeat(7), 2, rule.length() * 6);
            fault(rule.repeat(6) + sort, 2, rule.length() * 6);
            fault(rule.repeat(6) + " " + sort + " !", 2, rule.length() * 6 + 1);
            fault(rule.repeat(8), 2, rule.length() * 6);
            // Where no RULE can stand it is SYNTAX, and what comes ahead counts.
            fault(rule.repeat(6) + "lap " + sort, 1, rule.length() * 6 + 4);
            fault(rule.repeat(6) + "lap;" + rule, 1, rule.length() * 6 + 3);
            fault(rule.repeat(6) + "lap 100;", 5, rule.length() * 6 + 4);
            fault("lap 100;" + rule.repeat(7), 2, 8 + rule.length() * 6);
        }
        StringBuilder mixed = new StringBuilder();
        for (int i = 0; i < 6; i++) {
            mixed.append("nailed if 1==1;clipped if 1==1;warn if 1==1;door d").append((char) ('a' + i)).append(" 0 1;");
        }
        GaleRoof x = Check.told(mixed.toString());
        due("six of each", x.count(10) * 1000 + x.count(11) * 100 + x.count(12) * 10 + x.count(3), 6666);
        fault(mixed + "nailed if 1==1;", 2, mixed.length());
        fault(mixed + "clipped if 1==1;", 2, mixed.length());
        fault(mixed + "warn if 1==1;", 2, mixed.length());
        fault(mixed + "door x 0 1;", 2, mixed.length());
        fault(mixed + "door da 9 99;", 2, mixed.length());
        fault(mixed + "open", 1, mixed.length());
        fault(mixed + "lap 9;", 0, -1);
        // The last of six RULES counts as the first does.
        GaleRoof y = Check.told("nailed if 1==2;".repeat(5) + "nailed if row==3;" + "clipped if 1==2;".repeat(5) + "clipped if row==2;" + "warn if 1==2;".repeat(5) + "warn if age==7;");
        due("the sixth nailed", y.tile(12, 1) * 10 + y.tile(8, 1), 10);
        due("the sixth clipped", y.tile(12, 2) * 10 + y.tile(8, 2), 1);
        due("the sixth warn", y.warned(7, 0, 0) * 10 + y.warned(8, 0, 0), 10);
    }

    private void sixWithinOneAnother() {
        for (String law : LAWS) {
            String head = law + "=";
            right(head + "((((((1))))));");
            fault(head + "(((((((1)))))));", 2, head.length() + 6);
            fault(head + "(((((((", 2, head.length() + 6);
            fault(head + "((((((", 1, head.length() + 6);
            fault(head + "(((((( (", 2, head.length() + 7);
            right(head + "((((((1)+(2))))))*((((((3))))))/(((((4)-(5)))));");
            fault(head + "((((((1)+((2))))))));", 2, head.length() + 10);
            fault(head + "((((((1(", 1, head.length() + 7);
            fault(head + "(((((()))))));", 1, head.length() + 6);
            fault(head + "((((((1)))))));", 1, head.length() + 13);
        }
        for (String sort : SORTS) {
            String head = sort + " if ";
            right(head + "((((((1))))))==((((((1))))));");
            right(head + "not ((((((1))))))<1 and ((((((1))))))<((((((1)))))) or 1<((((((1))))));");
            fault(head + "(((((((1)))))))==1;", 2, head.length() + 6);
            fault(head + "1==(((((((1)))))));", 2, head.length() + 9);
            fault(head + "not(((((((1)))))))==1;", 2, head.length() + 9);
            fault(head + "1==1 and 1<(((((((1)))))));", 2, head.length() + 17);
        }
        due("six within one another count", Check.told("suck=((((((7)*2)+1)*2)+1)*2);").lift(0, 0, 0, 0), ((7 * 2 + 1) * 2 + 1) * 2);
    }

    // ---- FAULTS 3 and 5, and which comes first

    private void namesToldTwice() {
        String six = "door a 0 1;door b 0 1;door c 0 1;door d 0 1;door e 0 1;";
        right(six + "door f 0 1;");
        for (String name : new String[] {"a", "b", "c", "d", "e"}) {
            fault(six + "door " + name + " 0 1;", 3, 60);
        }
        fault("door a 0 1;door a 0 1;door a 0 1;", 3, 16);
        fault("door ab 0 1;door abc 0 1;door b 0 1;door ab 0 1;", 3, 41);
        right("door abcdefgh 0 1;door abcdefg 0 1;door bcdefgh 0 1;door aaaaaaaa 0 1;door aaaaaaa 0 1;");
        fault("door abcdefgh 0 1;door abcdefgh 0 1;", 3, 23);
        // A text with it is not there: the NAME is free in the next.
        GaleRoof x = new GaleRoof();
        due("TWICE", Check.read(x, "door a 0 1;door a 0 1;"), 3);
        due("then once", Check.read(x, "door a 0 1;"), 0);
        due("then once more", Check.read(x, "door a 0 1;"), 0);
        due("its DOORS", x.count(3), 1);
    }

    private void whichFaultIsFirst() {
        // 3 and 5 by place.
        fault("door a 0 1;door a 4 1;", 3, 16);
        fault("door a 4 1;door a 0 1;", 5, 7);
        fault("lap 100;door a 0 1;door a 0 1;", 5, 4);
        fault("door a 0 1;door a 0 1;lap 100;", 3, 16);
        fault("roof 1 7 4;", 5, 5);
        fault("roof 2 7 4;", 5, 7);
        fault("roof 2 2 4;", 5, 9);
        fault("door a 4 10;", 5, 7);
        fault("door a 3 10;lap 100;", 5, 9);
        fault("lap 100;lap 101;", 5, 4);
        // 1 and 2 count ahead of 3 and 5 wherever they are.
        fault("lap 100;!", 1, 8);
        fault("lap 100;lap", 1, 11);
        fault("lap 100", 1, 7);
        fault("door a 0 1;door a 0 1", 1, 21);
        fault("lap 100;" + "door a 0 1;".repeat(7), 2, 8 + 66);
        fault("lap 100;far=(((((((1)))))));", 2, 18);
        // 1 and 2 by place.
        fault("far=(((((((1)))))));!", 2, 10);
        fault("far=1;!far=(((((((1)))))));", 1, 6);
        fault("far=((((((1)));", 1, 14);
        fault("warn if 1==1;".repeat(7) + "!", 2, 78);
        fault("!" + "warn if 1==1;".repeat(7), 1, 0);
        // The text's end is a place, too.
        fault("lap", 1, 3);
        fault("lap \n", 1, 5);
        fault("lap 9", 1, 5);
        fault("far = 1 ", 1, 8);
    }

    // ---- what a text does

    private void aRightTextIsInPlaceOfTheOneAhead() {
        GaleRoof x = Check.told("roof 2 2 1; door a 1 3; door b 2 2 open; suck = 99; far = 3;");
        x.felt(true);
        x.car(3003);
        x.gust(40, 0, 1);
        x.house(1, 1, 1, 1);
        x.annul(0);
        x.set(0, 1, 1);
        x.set(1, 4, 9);
        x.open(0, true);
        x.blow(9, 1);
        due("hit ahead", x.hits(0), 2);
        x.hold(0);
        x.hold(2);
        due("a text", Check.read(x, "roof 2 2 1; door a 1 3; door b 2 2 open; suck = 99; far = 3;"), 0);
        due("a new ROOF", x.count(4), 4);
        due("a new ROOF", x.tile(0, 1) + x.tile(1, 4), 0);
        due("DOORS as told", x.door(0, 2) * 10 + x.door(1, 2), 1);
        due("no FELT", x.felt(false), false);
        due("an empty YARD", x.yard(3003), 0);
        due("an empty YARD", x.sweep(), 0);
        due("no CARS", x.count(6), 0);
        due("no CARS", x.hits(0), -1);
        due("no GUSTS", x.count(7), 0);
        due("no GUSTS", x.calm(), 0);
        due("FACTS stay", x.count(5), 2);
        due("FACTS stay", x.village(1, 0, 0) * 10 + x.village(2, 0, 0), 10);
        due("SLOTS hold nothing", x.count(9), 0);
        for (int slot = 0; slot < 3; slot++) {
            due("SLOT " + slot, x.restore(slot), false);
        }
        due("a CAR is the first again", x.car(3003), 0);
        due("a GUST is the first again", x.gust(1, 1, 1), 0);
        due("a FACT is the next", x.house(1, 1, 1, 1), 2);
        due("a new CAR has no hits", x.hits(0), 0);
    }

    public static void main(String[] args) {
        TextEdgesTest test = new TextEdgesTest();
        test.newIsAsAnEmptyText();
        test.feedPutsTwentyBytesInOrder();
        test.tapeTakesTwoThousand();
        test.backTakesTheLast();
        test.whatWentIsNotRead();
        test.placeIsOfTheLatestRead();
        test.everyByte();
        test.blanksBetweenOrNot();
        test.namesAndInts();
        test.longestSigns();
        test.grammarRows();
        test.everyVarIsAUnit();
        test.bounds();
        test.theLastOneTold();
        test.oneTextBehindTheOther();
        test.fourHundredTokens();
        test.eachTokenAsThe401st();
        test.sixOfASort();
        test.sixWithinOneAnother();
        test.namesToldTwice();
        test.whichFaultIsFirst();
        test.aRightTextIsInPlaceOfTheOneAhead();
        test.check.end();
    }
}
