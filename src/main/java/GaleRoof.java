import java.util.Arrays;

/**
 * A roof of tiles in a gale. The document's words (TILE, GUST, WAY, FAR ..) stand in the names here,
 * so that each method can be laid beside the promise that it keeps.
 *
 * No call makes an object: all rows are made with the object and used again.
 */
public final class GaleRoof {
    public static final int NONE = -1;

    private static final int NEVER = -2;
    private static final int NO_LIFT = -2147483648;
    private static final int NO_HELP = -100;
    private static final int NO_HARM = -1000000;
    private static final int UNBOUNDED = 2147483647;

    private static final int MOST_TILES = 36;
    private static final int GUSTS = 100;
    private static final int WAYS = 4;
    private static final int TOP_MARK = 99;
    private static final int MOST_CARS = 8;
    private static final int MOST_AHEAD = 4;
    private static final int TOP_WEIGHT = 9;
    private static final int MOST_NAILING = 2;
    private static final int MOST_STEPS = 12;
    private static final int MOST_IN_NIGHT = 80;
    private static final int MOST_YEARS = 60;
    private static final int MOST_SEEDS = 50;
    private static final int MOST_FACTS = 60;
    private static final int TOP_NAILS = 9;
    private static final int TOP_LINE = 100;
    private static final int SLOTS = 3;

    private static final int SIDE_CELLS = 120;
    private static final int LINE_CELLS = 20;
    private static final int CELLS = 480;

    private static final int MOST_BYTES = 2000;
    private static final int FED_AT_ONCE = 20;
    private static final int MOST_TOKENS = 400;
    private static final int LONGEST_NAME = 8;
    private static final int LONGEST_INT = 4;
    private static final int MOST_RULES = 6;
    private static final int MOST_DOORS = 6;
    private static final int MOST_NESTED = 6;

    private static final int SYNTAX = 1;
    private static final int ROOM = 2;
    private static final int TWICE = 3;
    private static final int WRONG = 5;

    // Kinds of TOKENS; those of operators are the operations of a law's code, too.
    private static final int T_END = 0;
    private static final int T_BAD = 1;
    private static final int T_INT = 2;
    private static final int T_NAME = 3;
    private static final int T_SEMICOLON = 4;
    private static final int T_IS = 5;
    private static final int T_PLUS = 6;
    private static final int T_MINUS = 7;
    private static final int T_TIMES = 8;
    private static final int T_OVER = 9;
    private static final int T_SAME = 10;
    private static final int T_OTHER = 11;
    private static final int T_LESS = 12;
    private static final int T_UP_TO = 13;
    private static final int T_OPENING = 14;
    private static final int T_CLOSING = 15;

    // The words in quotes: the kind of each is T_ROOF and its place in this row more.
    private static final String WORDS = "roof weigh lap nail clip years moss nailed clipped warn suck press holds far door open if or and not row col third edge bare holes inlet outlet gust way age grown nails ";
    private static final int WORD_COUNT = 33;
    private static final int T_ROOF = 16;
    private static final int T_WEIGH = 17;
    private static final int T_MOSS = 22;
    private static final int T_NAILED = 23;
    private static final int T_WARN = 25;
    private static final int T_SUCK = 26;
    private static final int T_FAR = 29;
    private static final int T_DOOR = 30;
    private static final int T_OPEN = 31;
    private static final int T_IF = 32;
    private static final int T_OR = 33;
    private static final int T_AND = 34;
    private static final int T_NOT = 35;
    private static final int T_VAR = 36;
    private static final int T_LAST_VAR = 48;

    // VARS, in the order of their words.
    private static final int V_ROW = 0;
    private static final int V_COL = 1;
    private static final int V_THIRD = 2;
    private static final int V_EDGE = 3;
    private static final int V_BARE = 4;
    private static final int V_HOLES = 5;
    private static final int V_INLET = 6;
    private static final int V_OUTLET = 7;
    private static final int V_GUST = 8;
    private static final int V_WAY = 9;
    private static final int V_AGE = 10;
    private static final int V_GROWN = 11;
    private static final int V_NAILS = 12;
    private static final int VARS = 13;

    // The numbers that a text tells.
    private static final int ROWS = 0;
    private static final int COLS = 1;
    private static final int FACES = 2;
    private static final int WEIGH = 3;
    private static final int LAP = 4;
    private static final int NAIL = 5;
    private static final int CLIP = 6;
    private static final int YEARS = 7;
    private static final int MOSS_TOLD = 8;
    private static final int NUMBERS = 9;

    // Laws and sorts of RULES, in the order of their words.
    private static final int SUCK = 0;
    private static final int PRESS = 1;
    private static final int HOLDS = 2;
    private static final int FAR = 3;
    private static final int LAWS = 4;
    private static final int WARN = 2;
    private static final int SORTS = 3;

    // What is marked on a TILE, by the numbers of tile() and set().
    private static final int THERE = 0;
    private static final int NAILED = 1;
    private static final int CLIPPED = 2;
    private static final int AGE = 3;
    private static final int MOSS = 4;
    private static final int MARKS = 5;
    private static final int EDGE = 5;

    private final Tape tape;
    private final Reader reader;
    private final Machine machine;
    private final Gale gale;
    private final Scene now;
    private final Scene[] slots;
    private final Planner planner;
    private final Fate fate;
    private final Teller teller;
    private final Village village;
    private Told told;
    private Told spare;
    private int faultPlace;

    public GaleRoof() {
        Tape newTape = new Tape();
        Machine newMachine = new Machine();
        Told newTold = new Told();
        Told newSpare = new Told();
        Gale newGale = new Gale(newMachine, newTold);
        Scene newScene = new Scene();
        tape = newTape;
        reader = new Reader(newTape, newSpare);
        machine = newMachine;
        gale = newGale;
        now = newScene;
        slots = new Scene[SLOTS];
        for (int i = 0; i < SLOTS; i++) {
            slots[i] = new Scene();
        }
        planner = new Planner(newGale, newScene);
        fate = new Fate(newGale, newScene);
        teller = new Teller(newGale, newScene);
        village = new Village();
        told = newTold;
        spare = newSpare;
        faultPlace = NONE;
        layNewRoof();
    }

    public int feed(int a, int b, int c, int d, int e) {
        if (tape.size + FED_AT_ONCE > MOST_BYTES) {
            return NONE;
        }
        tape.put(a);
        tape.put(b);
        tape.put(c);
        tape.put(d);
        tape.put(e);
        return tape.size;
    }

    public int back(int n) {
        if (n < 0 || n > tape.size) {
            return NONE;
        }
        tape.size -= n;
        return tape.size;
    }

    public int read() {
        int fault = reader.parse(spare);
        faultPlace = fault == 0 ? NONE : reader.faultPlace;
        tape.size = 0;
        if (fault == 0) {
            Told old = told;
            told = spare;
            spare = old;
            layNewRoof();
        }
        return fault;
    }

    public int place() {
        return faultPlace;
    }

    public int tile(int tile, int what) {
        if (!isTile(tile) || what < THERE || what > EDGE) {
            return NONE;
        }
        return what == EDGE ? told.edgeOf[tile] : now.roof.marks[what][tile];
    }

    public boolean set(int tile, int what, int value) {
        if (!isTile(tile) || what < NAILED || what > MOSS) {
            return false;
        }
        int top = what <= CLIPPED ? 1 : TOP_MARK;
        if (value < 0 || value > top) {
            return false;
        }
        now.roof.marks[what][tile] = value;
        forgetPlans();
        return true;
    }

    public boolean there(int tile, boolean is) {
        if (!isTile(tile)) {
            return false;
        }
        int wanted = is ? 1 : 0;
        if (now.roof.marks[THERE][tile] == wanted) {
            return false;
        }
        now.roof.marks[THERE][tile] = wanted;
        forgetPlans();
        return true;
    }

    public boolean open(int door, boolean is) {
        if (!isDoor(door)) {
            return false;
        }
        int bit = 1 << door;
        now.roof.openDoors = is ? now.roof.openDoors | bit : now.roof.openDoors & ~bit;
        forgetPlans();
        return true;
    }

    public boolean felt(boolean is) {
        boolean was = now.roof.felted;
        now.roof.felted = is;
        forgetPlans();
        return was;
    }

    public int door(int door, int what) {
        if (!isDoor(door)) {
            return NONE;
        }
        switch (what) {
            case 0: return told.doorSide[door];
            case 1: return told.doorSize[door];
            case 2: return now.roof.openDoors >> door & 1;
            default: return NONE;
        }
    }

    public int inlet(int way, int what) {
        if (!isWay(way) || what < 0 || what > 1) {
            return NONE;
        }
        gale.meet(now.roof, 0, way);
        return machine.vars[what == 0 ? V_INLET : V_OUTLET];
    }

    public int lift(int tile, int gust, int way, int what) {
        if (!isTile(tile) || !isGust(gust) || !isWay(way)) {
            return NO_LIFT;
        }
        gale.meet(now.roof, gust, way);
        int all = gale.liftOf(now.roof, tile);
        switch (what) {
            case 0: return gale.sucks;
            case 1: return gale.presses;
            case 2: return gale.keeps;
            case 3: return all;
            default: return NO_LIFT;
        }
    }

    public int goes(int tile, int way, boolean far) {
        if (!isTile(tile) || !isWay(way)) {
            return NONE;
        }
        if (now.roof.marks[THERE][tile] == 0) {
            return NEVER;
        }
        for (int gust = 0; gust < GUSTS; gust++) {
            if (wouldGo(tile, gust, way, far)) {
                return gust;
            }
        }
        return NEVER;
    }

    public int first(int way, boolean gust) {
        if (!isWay(way)) {
            return NONE;
        }
        for (int power = 0; power < GUSTS; power++) {
            int tile = gale.firstOf(now.roof, power, way);
            if (tile != NEVER) {
                return gust ? power : tile;
            }
        }
        return NEVER;
    }

    public int fall(int gust, int way, int what) {
        if (!isGust(gust) || !isWay(way) || what < 0 || what > 1) {
            return NONE;
        }
        gale.run(now.roof, gust, way, false);
        return what == 0 ? gale.fallenCount : gale.rounds;
    }

    public int fallen(int gust, int way, int i) {
        if (!isGust(gust) || !isWay(way)) {
            return NONE;
        }
        gale.run(now.roof, gust, way, false);
        return i < 0 || i >= gale.fallenCount ? NONE : gale.order[i];
    }

    public int round(int tile, int gust, int way) {
        if (!isTile(tile) || !isGust(gust) || !isWay(way)) {
            return NONE;
        }
        gale.run(now.roof, gust, way, false);
        return gale.roundOf[tile];
    }

    public int lands(int tile, int gust, int way) {
        if (!isTile(tile) || !isGust(gust) || !isWay(way)) {
            return NONE;
        }
        gale.run(now.roof, gust, way, true);
        return gale.roundOf[tile] == NEVER ? NEVER : gale.cellOf[tile];
    }

    public int blow(int gust, int way) {
        if (!isGust(gust) || !isWay(way)) {
            return NONE;
        }
        gale.run(now.roof, gust, way, true);
        now.roof.lose(gale);
        for (int i = 0; i < gale.fallenCount; i++) {
            int cell = gale.cellOf[gale.order[i]];
            now.strike(cell, cellIndex(cell));
        }
        forgetPlans();
        return gale.fallenCount;
    }

    public int yard(int cell) {
        int index = cellIndex(cell);
        return index == NONE ? NONE : now.lying[index];
    }

    public int sweep() {
        int lay = now.lyingInAll();
        Arrays.fill(now.lying, 0);
        forgetPlans();
        return lay;
    }

    public int car(int cell) {
        if (now.cars >= MOST_CARS || cellIndex(cell) == NONE) {
            return NONE;
        }
        now.carCell[now.cars] = cell;
        now.carHits[now.cars] = 0;
        now.cars++;
        return now.cars - 1;
    }

    public int hits(int car) {
        return car < 0 || car >= now.cars ? NONE : now.carHits[car];
    }

    public int worst(int gust, int way) {
        if (!isGust(gust) || !isWay(way)) {
            return NONE;
        }
        gale.run(now.roof, gust, way, true);
        return gale.fullestCell();
    }

    public int gust(int gust, int way, int weight) {
        if (now.gusts >= MOST_AHEAD || !isGust(gust) || !isWay(way)) {
            return NONE;
        }
        if (weight < 1 || weight > TOP_WEIGHT) {
            return NONE;
        }
        now.gustPower[now.gusts] = gust;
        now.gustWay[now.gusts] = way;
        now.gustWeight[now.gusts] = weight;
        now.gusts++;
        forgetPlans();
        return now.gusts - 1;
    }

    public int calm() {
        int were = now.gusts;
        now.gusts = 0;
        forgetPlans();
        return were;
    }

    public int harm() {
        return planner.harmOf(now.roof, UNBOUNDED);
    }

    public int doors(int gust, int way) {
        return isGust(gust) && isWay(way) ? planner.bestDoors(gust, way, told.doors) : NONE;
    }

    public int helps(int door, int gust, int way) {
        if (!isDoor(door) || !isGust(gust) || !isWay(way)) {
            return NO_HELP;
        }
        return planner.helpOf(door, gust, way);
    }

    public int ever(int door, int way) {
        if (!isDoor(door) || !isWay(way)) {
            return NONE;
        }
        for (int gust = 0; gust < GUSTS; gust++) {
            if (planner.helpOf(door, gust, way) >= 1) {
                return gust;
            }
        }
        return NEVER;
    }

    public int nailing(int n) {
        if (n < 0 || n > MOST_NAILING) {
            return NONE;
        }
        planner.chooseNails(n);
        return planner.nailsHarm;
    }

    public int nailingAt(int n, int i) {
        if (n < 0 || n > MOST_NAILING) {
            return NONE;
        }
        planner.chooseNails(n);
        return i < 0 || i >= planner.nailsCount ? NONE : planner.nails[i];
    }

    public int onebyone(int n) {
        if (n < 0 || n > MOST_STEPS) {
            return NONE;
        }
        planner.chooseSteps(n);
        return planner.stepsHarm;
    }

    public int onebyoneAt(int n, int i) {
        if (n < 0 || n > MOST_STEPS) {
            return NONE;
        }
        planner.chooseSteps(n);
        return i < 0 || i >= planner.stepsCount ? NONE : planner.steps[i];
    }

    public int without(int what) {
        switch (what) {
            case 0: return planner.thirds();
            case 1: return planner.mossless();
            case 2: return planner.felted();
            default: return NO_HARM;
        }
    }

    public int neglect(int gust, int way) {
        return isGust(gust) && isWay(way) ? planner.neglected(gust, way) : NO_HELP;
    }

    public int night(int many) {
        return many < 1 || many > MOST_TILES ? NONE : fate.nightTill(many);
    }

    public int years(int seed, int k) {
        return k < 0 || k > MOST_YEARS ? NONE : fate.goneBehind(seed, k);
    }

    public int lasts(int seed) {
        return fate.firstBadYear(seed);
    }

    public int odds(int seed, int many, int k, int gone) {
        if (many < 1 || many > MOST_SEEDS || k < 0 || k > MOST_YEARS) {
            return NONE;
        }
        if (gone < 0 || gone > MOST_TILES) {
            return NONE;
        }
        int such = 0;
        for (int i = 0; i < many; i++) {
            if (fate.goneBehind(seed + i, k) >= gone) {
                such++;
            }
        }
        return such;
    }

    public int yardTells(int what) {
        if (what < 0 || what > 3) {
            return NONE;
        }
        teller.findGust();
        switch (what) {
            case 0: return teller.bestGust;
            case 1: return teller.bestWay;
            case 2: return teller.leastApart;
            default: return teller.firstTile;
        }
    }

    public int house(int age, int way, int nails, int lost) {
        if (!isHouse(age, way, nails) || lost < 0 || lost > TOP_MARK) {
            return NONE;
        }
        return village.addHouse(age, way, nails, lost);
    }

    public int annul(int fact) {
        return village.addVoid(fact);
    }

    public int warned(int age, int way, int nails) {
        return isHouse(age, way, nails) ? machine.warns(told, age, way, nails) : NONE;
    }

    public int village(int n, int c, int what) {
        if (!isKnowledge(n, c)) {
            return NONE;
        }
        village.tally(n, c, told, machine);
        switch (what) {
            case 0: return village.houses;
            case 1: return village.warnedOnes;
            case 2: return village.hurt;
            case 3: return village.both;
            default: return NONE;
        }
    }

    public long villageWays(int n, int c, boolean more) {
        if (!isKnowledge(n, c)) {
            return NONE;
        }
        village.tally(n, c, told, machine);
        return more ? village.waysToDoAsWell() : Village.choose(village.houses, village.warnedOnes);
    }

    public int line(int n, int c, boolean right) {
        if (!isKnowledge(n, c)) {
            return NONE;
        }
        village.drawLine(n, c);
        return right ? village.toldRight : village.lineAge;
    }

    public boolean hold(int slot) {
        if (slot < 0 || slot >= SLOTS) {
            return false;
        }
        slots[slot].copyFrom(now);
        slots[slot].held = true;
        return true;
    }

    public boolean restore(int slot) {
        if (slot < 0 || slot >= SLOTS || !slots[slot].held) {
            return false;
        }
        now.copyFrom(slots[slot]);
        forgetPlans();
        return true;
    }

    public int count(int what) {
        if (what >= 0 && what <= 2) {
            return told.numbers[ROWS + what];
        }
        if (what >= 10 && what <= 12) {
            return told.ruleCount[what - 10];
        }
        if (what >= 13 && what <= 16) {
            return told.numbers[WEIGH + what - 13];
        }
        switch (what) {
            case 3: return told.doors;
            case 4: return told.tiles - now.roof.goneCount();
            case 5: return village.facts;
            case 6: return now.cars;
            case 7: return now.gusts;
            case 8: return tape.size;
            case 9: return heldSlots();
            default: return NONE;
        }
    }

    private boolean isTile(int tile) {
        return tile >= 0 && tile < told.tiles;
    }

    private boolean isDoor(int door) {
        return door >= 0 && door < told.doors;
    }

    private static boolean isGust(int gust) {
        return gust >= 0 && gust < GUSTS;
    }

    private static boolean isWay(int way) {
        return way >= 0 && way < WAYS;
    }

    private static boolean isHouse(int age, int way, int nails) {
        return age >= 0 && age <= TOP_MARK && isWay(way) && nails >= 0 && nails <= TOP_NAILS;
    }

    private boolean isKnowledge(int n, int c) {
        return n >= 0 && n <= village.facts && c >= 0 && c <= TOP_MARK;
    }

    /** Where a CELL stands in the row of all CELLS; NONE: no such one. */
    private static int cellIndex(int cell) {
        if (cell < 0 || cell >= 1000 * WAYS) {
            return NONE;
        }
        int line = cell / 100 % 10;
        int away = cell % 100;
        if (line > 5 || away >= LINE_CELLS) {
            return NONE;
        }
        return cell / 1000 * SIDE_CELLS + line * LINE_CELLS + away;
    }

    private void layNewRoof() {
        gale.told = told;
        now.startAnew(told, machine);
        for (int i = 0; i < SLOTS; i++) {
            slots[i].held = false;
        }
        forgetPlans();
    }

    private void forgetPlans() {
        planner.forget();
        teller.fresh = false;
    }

    private boolean wouldGo(int tile, int gust, int way, boolean inAnyRound) {
        if (inAnyRound) {
            gale.run(now.roof, gust, way, false);
            return gale.roundOf[tile] != NEVER;
        }
        gale.meet(now.roof, gust, way);
        return gale.liftOf(now.roof, tile) > 0;
    }

    private int heldSlots() {
        int full = 0;
        for (int i = 0; i < SLOTS; i++) {
            if (slots[i].held) {
                full++;
            }
        }
        return full;
    }

    /** The bytes that were fed, and the TOKENS in them. */
    private static final class Tape {
        final int[] kinds = new int[MOST_TOKENS + 1];
        final int[] starts = new int[MOST_TOKENS + 1];
        /** Of an INT its worth, of a word its letters, 5 bits each. */
        final long[] values = new long[MOST_TOKENS + 1];
        int size;
        private final byte[] bytes = new byte[MOST_BYTES];
        private final long[] words = new long[WORD_COUNT];
        private int at;
        private long value;

        Tape() {
            int word = 0;
            for (int i = 0; i < WORDS.length() && word < WORD_COUNT; i++) {
                char letter = WORDS.charAt(i);
                if (letter == ' ') {
                    word++;
                } else {
                    words[word] = withLetter(words[word], letter);
                }
            }
        }

        void put(int four) {
            for (int shift = 24; shift >= 0 && size < MOST_BYTES; shift -= 8) {
                bytes[size] = (byte) (four >> shift);
                size++;
            }
        }

        /** Finds the TOKENS up to the end, to what is none, or to one more than there may be. */
        void scan() {
            at = 0;
            for (int i = 0; i <= MOST_TOKENS; i++) {
                skipBlanks();
                starts[i] = at;
                value = 0;
                kinds[i] = nextKind();
                values[i] = value;
                if (kinds[i] == T_END || kinds[i] == T_BAD) {
                    return;
                }
            }
        }

        private void skipBlanks() {
            while (at < size && isBlank(bytes[at])) {
                at++;
            }
        }

        private int nextKind() {
            if (at >= size) {
                return T_END;
            }
            int first = bytes[at];
            if (isLetter(first)) {
                return wordKind();
            }
            return isDigit(first) ? intKind() : signKind(first);
        }

        private int wordKind() {
            int letters = 0;
            while (at < size && isLetter(bytes[at])) {
                value = withLetter(value, bytes[at]);
                letters++;
                at++;
            }
            if (letters > LONGEST_NAME) {
                return T_BAD;
            }
            for (int i = 0; i < WORD_COUNT; i++) {
                if (words[i] == value) {
                    return T_ROOF + i;
                }
            }
            return T_NAME;
        }

        private int intKind() {
            int digits = 0;
            while (at < size && isDigit(bytes[at])) {
                value = value * 10 + bytes[at] - '0';
                digits++;
                at++;
            }
            return digits > LONGEST_INT ? T_BAD : T_INT;
        }

        private int signKind(int first) {
            at++;
            boolean doubled = at < size && bytes[at] == '=';
            switch (first) {
                case ';': return T_SEMICOLON;
                case '+': return T_PLUS;
                case '-': return T_MINUS;
                case '*': return T_TIMES;
                case '/': return T_OVER;
                case '(': return T_OPENING;
                case ')': return T_CLOSING;
                case '=': return withEqual(doubled, T_SAME, T_IS);
                case '<': return withEqual(doubled, T_UP_TO, T_LESS);
                case '!': return withEqual(doubled, T_OTHER, T_BAD);
                default: return T_BAD;
            }
        }

        private int withEqual(boolean doubled, int longer, int shorter) {
            if (doubled) {
                at++;
            }
            return doubled ? longer : shorter;
        }

        private static long withLetter(long word, int letter) {
            return word * 32 + letter - 'a' + 1;
        }

        private static boolean isBlank(int sign) {
            return sign == 9 || sign == 10 || sign == 13 || sign == 32;
        }

        private static boolean isLetter(int sign) {
            return sign >= 'a' && sign <= 'z';
        }

        private static boolean isDigit(int sign) {
            return sign >= '0' && sign <= '9';
        }
    }

    /** What a text tells; laws and CONDs as code, operands ahead of what joins them. */
    private static final class Told {
        final int[] numbers = new int[NUMBERS];
        final int[] doorSide = new int[MOST_DOORS];
        final int[] doorSize = new int[MOST_DOORS];
        final long[] doorName = new long[MOST_DOORS];
        final int[] code = new int[MOST_TOKENS];
        final int[] lawFrom = new int[LAWS];
        final int[] lawTo = new int[LAWS];
        final int[] ruleFrom = new int[SORTS * MOST_RULES];
        final int[] ruleTo = new int[SORTS * MOST_RULES];
        final int[] ruleCount = new int[SORTS];
        final int[] rowOf = new int[MOST_TILES];
        final int[] colOf = new int[MOST_TILES];
        final int[] edgeOf = new int[MOST_TILES];
        int tiles;
        int doors;
        int openDoors;
        int codeSize;

        Told() {
            tellNothing();
            layOut();
        }

        void tellNothing() {
            Arrays.fill(numbers, 0);
            numbers[ROWS] = 4;
            numbers[COLS] = 4;
            numbers[WEIGH] = 20;
            numbers[LAP] = 5;
            numbers[NAIL] = 30;
            numbers[CLIP] = 25;
            Arrays.fill(lawFrom, 0);
            Arrays.fill(lawTo, 0);
            Arrays.fill(ruleCount, 0);
            doors = 0;
            openDoors = 0;
            codeSize = 0;
        }

        void emit(int operation, int operand) {
            if (codeSize < MOST_TOKENS) {
                code[codeSize] = operation << 16 | operand;
                codeSize++;
            }
        }

        /** Rows, cols and edges of all TILES, told once: every LIFT wants them. */
        void layOut() {
            int rows = numbers[ROWS];
            int cols = numbers[COLS];
            tiles = 0;
            for (int row = 0; row < rows; row++) {
                int rowEdge = row == 0 || row == rows - 1 ? 1 : 0;
                for (int col = 0; col < cols && tiles < MOST_TILES; col++) {
                    int colEdge = col == 0 || col == cols - 1 ? 1 : 0;
                    rowOf[tiles] = row;
                    colOf[tiles] = col;
                    edgeOf[tiles] = rowEdge + colEdge;
                    tiles++;
                }
            }
        }
    }

    /** Reads the TOKENS of a tape; each method answers whether the text can go on. */
    private static final class Reader {
        int faultPlace;
        private final Tape tape;
        /** What is told so far; of a text with a FAULT it is never looked at. */
        private Told told;
        private int at;
        private int fault;
        private int lateFault;
        private int latePlace;

        Reader(Tape tape, Told into) {
            this.tape = tape;
            told = into;
        }

        /** The FAULT of the tape, or 0; then all that it tells stands in the Told. */
        int parse(Told into) {
            told = into;
            told.tellNothing();
            tape.scan();
            at = 0;
            fault = 0;
            lateFault = 0;
            boolean on = true;
            for (int i = 0; on && i <= MOST_TOKENS && tape.kinds[at] != T_END; i++) {
                on = parseTell();
            }
            if (fault == 0 && lateFault != 0) {
                fault = lateFault;
                faultPlace = latePlace;
            }
            if (fault == 0) {
                told.layOut();
            }
            return fault;
        }

        private boolean parseTell() {
            int kind = tape.kinds[at];
            if (kind == T_ROOF) {
                return pass() && parseNumber(ROWS, 2, 6) && parseNumber(COLS, 2, 6)
                    && parseNumber(FACES, 0, WAYS - 1) && expect(T_SEMICOLON);
            }
            if (kind >= T_WEIGH && kind <= T_MOSS) {
                return pass() && parseNumber(WEIGH + kind - T_WEIGH, 0, TOP_MARK)
                    && expect(T_SEMICOLON);
            }
            if (kind >= T_NAILED && kind <= T_WARN) {
                return parseRule(kind - T_NAILED);
            }
            if (kind >= T_SUCK && kind <= T_FAR) {
                return parseLaw(kind - T_SUCK);
            }
            return kind == T_DOOR ? parseDoor() : refuse(SYNTAX);
        }

        private boolean parseNumber(int which, int least, int most) {
            int number = parseInt(least, most);
            told.numbers[which] = number;
            return number != NONE;
        }

        /** An INT that the TELL holds to some bounds; NONE: the text can not go on. */
        private int parseInt(int least, int most) {
            if (tape.kinds[at] != T_INT) {
                refuse(SYNTAX);
                return NONE;
            }
            int number = (int) tape.values[at];
            if (number < least || number > most) {
                noteLate(WRONG);
            }
            return pass() ? number : NONE;
        }

        private boolean parseRule(int sort) {
            int rule = told.ruleCount[sort];
            if (rule >= MOST_RULES) {
                return refuse(ROOM);
            }
            int from = told.codeSize;
            if (!pass() || !expect(T_IF) || !parseCond()) {
                return false;
            }
            told.ruleFrom[sort * MOST_RULES + rule] = from;
            told.ruleTo[sort * MOST_RULES + rule] = told.codeSize;
            told.ruleCount[sort]++;
            return expect(T_SEMICOLON);
        }

        private boolean parseLaw(int law) {
            int from = told.codeSize;
            if (!pass() || !expect(T_IS) || !parseSum(0)) {
                return false;
            }
            told.lawFrom[law] = from;
            told.lawTo[law] = told.codeSize;
            return expect(T_SEMICOLON);
        }

        private boolean parseDoor() {
            int door = told.doors;
            if (door >= MOST_DOORS) {
                return refuse(ROOM);
            }
            if (!pass() || !parseName(door)) {
                return false;
            }
            told.doorSide[door] = parseInt(0, WAYS - 1);
            if (fault != 0) {
                return false;
            }
            told.doorSize[door] = parseInt(1, 9);
            if (fault != 0) {
                return false;
            }
            if (tape.kinds[at] == T_OPEN) {
                told.openDoors |= 1 << door;
                if (!pass()) {
                    return false;
                }
            }
            told.doors++;
            return expect(T_SEMICOLON);
        }

        private boolean parseName(int door) {
            if (tape.kinds[at] != T_NAME) {
                return refuse(SYNTAX);
            }
            long name = tape.values[at];
            for (int i = 0; i < door; i++) {
                if (told.doorName[i] == name) {
                    noteLate(TWICE);
                }
            }
            told.doorName[door] = name;
            return pass();
        }

        /** LITs joined: an 'and' is joined at once, an 'or' when its ALL has ended. */
        private boolean parseCond() {
            boolean afterOr = false;
            boolean afterAnd = false;
            for (int i = 0; i <= MOST_TOKENS; i++) {
                if (!parseLit()) {
                    return false;
                }
                if (afterAnd) {
                    told.emit(T_AND, 0);
                }
                afterAnd = tape.kinds[at] == T_AND;
                if (!afterAnd) {
                    if (afterOr) {
                        told.emit(T_OR, 0);
                    }
                    afterOr = tape.kinds[at] == T_OR;
                    if (!afterOr) {
                        return true;
                    }
                }
                if (!pass()) {
                    return false;
                }
            }
            return false;
        }

        private boolean parseLit() {
            boolean turned = false;
            for (int i = 0; i <= MOST_TOKENS && tape.kinds[at] == T_NOT; i++) {
                turned = !turned;
                if (!pass()) {
                    return false;
                }
            }
            if (!parseSum(0)) {
                return false;
            }
            int comparing = tape.kinds[at];
            if (comparing < T_SAME || comparing > T_UP_TO) {
                return refuse(SYNTAX);
            }
            if (!pass() || !parseSum(0)) {
                return false;
            }
            told.emit(comparing, 0);
            if (turned) {
                told.emit(T_NOT, 0);
            }
            return true;
        }

        private boolean parseSum(int nested) {
            if (!parsePart(nested)) {
                return false;
            }
            for (int i = 0; i <= MOST_TOKENS; i++) {
                int sign = tape.kinds[at];
                if (sign != T_PLUS && sign != T_MINUS) {
                    return true;
                }
                if (!pass() || !parsePart(nested)) {
                    return false;
                }
                told.emit(sign, 0);
            }
            return false;
        }

        private boolean parsePart(int nested) {
            if (!parseUnit(nested)) {
                return false;
            }
            for (int i = 0; i <= MOST_TOKENS; i++) {
                int sign = tape.kinds[at];
                if (sign != T_TIMES && sign != T_OVER) {
                    return true;
                }
                if (!pass() || !parseUnit(nested)) {
                    return false;
                }
                told.emit(sign, 0);
            }
            return false;
        }

        private boolean parseUnit(int nested) {
            int kind = tape.kinds[at];
            if (kind == T_INT) {
                told.emit(T_INT, (int) tape.values[at]);
                return pass();
            }
            if (kind >= T_VAR && kind <= T_LAST_VAR) {
                told.emit(T_VAR, kind - T_VAR);
                return pass();
            }
            if (kind != T_OPENING) {
                return refuse(SYNTAX);
            }
            if (nested >= MOST_NESTED) {
                return refuse(ROOM);
            }
            if (!pass() || !parseSum(nested + 1)) {
                return false;
            }
            return tape.kinds[at] == T_CLOSING ? pass() : refuse(SYNTAX);
        }

        private boolean expect(int kind) {
            return tape.kinds[at] == kind ? pass() : refuse(SYNTAX);
        }

        /** Goes on behind a TOKEN that fits; only then can it be one too many, as SYNTAX is the lesser FAULT. */
        private boolean pass() {
            if (at >= MOST_TOKENS) {
                fault = ROOM;
                faultPlace = tape.starts[at];
                return false;
            }
            at++;
            return true;
        }

        private boolean refuse(int why) {
            fault = why;
            faultPlace = tape.starts[at];
            return false;
        }

        /** A FAULT that counts only if the whole text has none of the first two. */
        private void noteLate(int why) {
            if (lateFault == 0) {
                lateFault = why;
                latePlace = tape.starts[at];
            }
        }
    }

    /** Works out laws and CONDs by VARS. */
    private static final class Machine {
        /** More than six nested brackets, a comparison and two joined LITs can leave open. */
        private static final int STACK = 32;
        final int[] vars = new int[VARS];
        private final int[] stack = new int[STACK];

        /** What the code says, 'untold' without code; 0 if an E divides by 0 anywhere in it. */
        int worth(int[] code, int from, int to, int untold) {
            if (from >= to) {
                return untold;
            }
            int top = 0;
            boolean bad = false;
            for (int i = from; i < to; i++) {
                int operation = code[i] >> 16;
                int operand = code[i] & 65535;
                if (operation == T_INT || operation == T_VAR) {
                    if (top >= STACK) {
                        return 0;
                    }
                    stack[top] = operation == T_INT ? operand : vars[operand];
                    top++;
                } else if (operation == T_NOT) {
                    if (top < 1) {
                        return 0;
                    }
                    stack[top - 1] = 1 - stack[top - 1];
                } else {
                    if (top < 2) {
                        return 0;
                    }
                    top--;
                    int right = stack[top];
                    bad = bad || operation == T_OVER && right == 0;
                    stack[top - 1] = joined(operation, stack[top - 1], right);
                    if (bad && operation >= T_SAME && operation <= T_UP_TO) {
                        stack[top - 1] = 0;
                        bad = false;
                    }
                }
            }
            return bad ? 0 : stack[0];
        }

        private static int joined(int operation, int left, int right) {
            switch (operation) {
                case T_PLUS: return left + right;
                case T_MINUS: return left - right;
                case T_TIMES: return left * right;
                case T_OVER: return right == 0 ? 0 : left / right;
                case T_SAME: return left == right ? 1 : 0;
                case T_OTHER: return left != right ? 1 : 0;
                case T_LESS: return left < right ? 1 : 0;
                case T_UP_TO: return left <= right ? 1 : 0;
                case T_AND: return left & right;
                case T_OR: return left | right;
                default: return 0;
            }
        }

        /** 1 if some RULE of a sort holds by the VARS as they are, else 0. */
        int someHolds(Told told, int sort) {
            int from = sort * MOST_RULES;
            for (int i = from; i < from + told.ruleCount[sort]; i++) {
                if (worth(told.code, told.ruleFrom[i], told.ruleTo[i], 0) != 0) {
                    return 1;
                }
            }
            return 0;
        }

        int warns(Told told, int age, int way, int nails) {
            Arrays.fill(vars, 0);
            vars[V_AGE] = age;
            vars[V_WAY] = way;
            vars[V_NAILS] = nails;
            return someHolds(told, WARN);
        }
    }

    /** The TILES, which DOORS are open (bits), and whether FELT lies below. */
    private static final class Roof {
        final int[][] marks = new int[MARKS][MOST_TILES];
        int tiles;
        int openDoors;
        boolean felted;

        void layAsTold(Told told, Machine machine) {
            tiles = told.tiles;
            openDoors = told.openDoors;
            felted = false;
            Arrays.fill(machine.vars, 0);
            for (int t = 0; t < tiles; t++) {
                machine.vars[V_ROW] = told.rowOf[t];
                machine.vars[V_COL] = told.colOf[t];
                machine.vars[V_THIRD] = t % 3;
                machine.vars[V_EDGE] = told.edgeOf[t];
                marks[THERE][t] = 1;
                marks[NAILED][t] = machine.someHolds(told, NAILED - 1);
                marks[CLIPPED][t] = machine.someHolds(told, CLIPPED - 1);
                marks[AGE][t] = told.numbers[YEARS];
                marks[MOSS][t] = told.numbers[MOSS_TOLD];
            }
        }

        void copyFrom(Roof other) {
            tiles = other.tiles;
            openDoors = other.openDoors;
            felted = other.felted;
            for (int m = 0; m < MARKS; m++) {
                System.arraycopy(other.marks[m], 0, marks[m], 0, MOST_TILES);
            }
        }

        int goneCount() {
            int gone = 0;
            for (int t = 0; t < tiles; t++) {
                gone += 1 - marks[THERE][t];
            }
            return gone;
        }

        void lose(Gale gale) {
            for (int i = 0; i < gale.fallenCount; i++) {
                marks[THERE][gale.order[i]] = 0;
            }
        }

        boolean canBeNailed(int tile) {
            return marks[THERE][tile] == 1 && marks[NAILED][tile] == 0;
        }

        void nailAnew(int tile) {
            marks[NAILED][tile] = 1;
            marks[AGE][tile] = 0;
        }

        void unnail(int tile, int age) {
            marks[NAILED][tile] = 0;
            marks[AGE][tile] = age;
        }
    }

    /** All that a SLOT holds: ROOF, YARD, CARS and the GUSTS told ahead. */
    private static final class Scene {
        final Roof roof = new Roof();
        final int[] lying = new int[CELLS];
        final int[] carCell = new int[MOST_CARS];
        final int[] carHits = new int[MOST_CARS];
        final int[] gustPower = new int[MOST_AHEAD];
        final int[] gustWay = new int[MOST_AHEAD];
        final int[] gustWeight = new int[MOST_AHEAD];
        int cars;
        int gusts;
        boolean held;

        void startAnew(Told told, Machine machine) {
            roof.layAsTold(told, machine);
            Arrays.fill(lying, 0);
            cars = 0;
            gusts = 0;
        }

        void copyFrom(Scene other) {
            roof.copyFrom(other.roof);
            System.arraycopy(other.lying, 0, lying, 0, CELLS);
            System.arraycopy(other.carCell, 0, carCell, 0, MOST_CARS);
            System.arraycopy(other.carHits, 0, carHits, 0, MOST_CARS);
            System.arraycopy(other.gustPower, 0, gustPower, 0, MOST_AHEAD);
            System.arraycopy(other.gustWay, 0, gustWay, 0, MOST_AHEAD);
            System.arraycopy(other.gustWeight, 0, gustWeight, 0, MOST_AHEAD);
            cars = other.cars;
            gusts = other.gusts;
        }

        /** A TILE comes down on a CELL, and on all CARS that stand there. */
        void strike(int cell, int index) {
            if (index < 0 || index >= CELLS) {
                return;
            }
            lying[index]++;
            for (int c = 0; c < cars; c++) {
                if (carCell[c] == cell) {
                    carHits[c]++;
                }
            }
        }

        int lyingInAll() {
            int sum = 0;
            for (int i = 0; i < CELLS; i++) {
                sum += lying[i];
            }
            return sum;
        }
    }

    /** A GUST on a ROOF, which it leaves as it is: what would go, in which ORDER, and where to. */
    private static final class Gale {
        final int[] order = new int[MOST_TILES];
        final int[] roundOf = new int[MOST_TILES];
        final int[] cellOf = new int[MOST_TILES];
        int fallenCount;
        int rounds;
        int sucks;
        int presses;
        int keeps;
        Told told;
        private final Machine machine;
        private final int[] gone = new int[MOST_TILES];
        /** How many TILES beside each are GONE. */
        private final int[] bare = new int[MOST_TILES];
        private int holes;
        private int doorsIn;
        private int doorsOut;

        Gale(Machine machine, Told told) {
            this.machine = machine;
            this.told = told;
        }

        /** All rounds; where the fallen land is worked out only if it is wanted. */
        void run(Roof roof, int gust, int way, boolean landing) {
            meet(roof, gust, way);
            for (int r = 0; r < MOST_TILES; r++) {
                int ahead = fallenCount;
                for (int t = 0; t < told.tiles; t++) {
                    if (gone[t] == 0 && liftOf(roof, t) > 0) {
                        order[fallenCount] = t;
                        fallenCount++;
                        roundOf[t] = r;
                        cellOf[t] = landing ? landingCell(t, gust, way) : NONE;
                    }
                }
                if (fallenCount == ahead) {
                    return;
                }
                rounds++;
                carryOff(ahead);
            }
        }

        /** The first in ORDER of the TILES that would go, without the rounds behind; NEVER: none. */
        int firstOf(Roof roof, int gust, int way) {
            meet(roof, gust, way);
            for (int t = 0; t < told.tiles; t++) {
                if (gone[t] == 0 && liftOf(roof, t) > 0) {
                    return t;
                }
            }
            return NEVER;
        }

        /** The ROOF as it is ahead of the first round. */
        void meet(Roof roof, int gust, int way) {
            fallenCount = 0;
            rounds = 0;
            holes = 0;
            Arrays.fill(gone, 0);
            Arrays.fill(bare, 0);
            Arrays.fill(roundOf, NEVER);
            for (int t = 0; t < told.tiles; t++) {
                if (roof.marks[THERE][t] == 0) {
                    leaveHole(t);
                }
            }
            doorsIn = 0;
            doorsOut = 0;
            for (int d = 0; d < told.doors; d++) {
                int size = told.doorSize[d] * (roof.openDoors >> d & 1);
                if (told.doorSide[d] == way) {
                    doorsIn += size;
                } else {
                    doorsOut += size;
                }
            }
            machine.vars[V_GUST] = gust;
            machine.vars[V_WAY] = way;
            feelDraught();
        }

        private void feelDraught() {
            int[] vars = machine.vars;
            boolean faced = told.numbers[FACES] == vars[V_WAY];
            vars[V_HOLES] = holes;
            vars[V_INLET] = faced ? doorsIn + holes : doorsIn;
            vars[V_OUTLET] = faced ? doorsOut : doorsOut + holes;
        }

        private void carryOff(int ahead) {
            for (int i = ahead; i < fallenCount; i++) {
                leaveHole(order[i]);
            }
            feelDraught();
        }

        private void leaveHole(int tile) {
            int cols = told.numbers[COLS];
            int col = told.colOf[tile];
            gone[tile] = 1;
            holes++;
            if (tile >= cols) {
                bare[tile - cols]++;
            }
            if (tile + cols < told.tiles) {
                bare[tile + cols]++;
            }
            if (col > 0) {
                bare[tile - 1]++;
            }
            if (col + 1 < cols) {
                bare[tile + 1]++;
            }
        }

        /** LIFT by what is GONE now; SUCK, PRESS and HOLD are left in sucks, presses and keeps. */
        int liftOf(Roof roof, int tile) {
            int[] vars = machine.vars;
            int[] code = told.code;
            int[] from = told.lawFrom;
            int[] to = told.lawTo;
            if (told.codeSize > 0) {
                look(roof, tile);
            }
            int gust = vars[V_GUST];
            sucks = machine.worth(code, from[SUCK], to[SUCK], gust + gust * told.edgeOf[tile] / 2);
            int draught = gust * (vars[V_INLET] - vars[V_OUTLET]) / 10;
            presses = roof.felted ? 0 : machine.worth(code, from[PRESS], to[PRESS], draught);
            keeps = machine.worth(code, from[HOLDS], to[HOLDS], 0) + holdOf(roof, tile);
            return sucks + presses - keeps;
        }

        /** Sets the VARS that differ from TILE to TILE; only laws want them. */
        private void look(Roof roof, int tile) {
            int[] vars = machine.vars;
            vars[V_ROW] = told.rowOf[tile];
            vars[V_COL] = told.colOf[tile];
            vars[V_THIRD] = tile % 3;
            vars[V_EDGE] = told.edgeOf[tile];
            vars[V_BARE] = bare[tile];
            vars[V_AGE] = roof.marks[AGE][tile];
            vars[V_GROWN] = roof.marks[MOSS][tile];
            vars[V_NAILS] = roof.marks[NAILED][tile];
        }

        /** HOLD without what the law says. */
        private int holdOf(Roof roof, int tile) {
            int[] numbers = told.numbers;
            int hold = numbers[WEIGH] + roof.marks[MOSS][tile];
            int above = tile + numbers[COLS];
            if (above < told.tiles && gone[above] == 0) {
                hold += numbers[LAP];
            }
            if (roof.marks[NAILED][tile] == 1 && numbers[NAIL] > roof.marks[AGE][tile]) {
                hold += numbers[NAIL] - roof.marks[AGE][tile];
            }
            if (roof.marks[CLIPPED][tile] == 1) {
                hold += numbers[CLIP];
            }
            return hold;
        }

        /** By the VARS that liftOf left for this TILE. */
        private int landingCell(int tile, int gust, int way) {
            int far = machine.worth(told.code, told.lawFrom[FAR], told.lawTo[FAR], gust / 10);
            int held = Math.max(0, Math.min(LINE_CELLS - 1, far));
            int side = way ^ 2;
            int line = (side & 1) == 0 ? told.colOf[tile] : told.rowOf[tile];
            return 1000 * side + 100 * line + held;
        }

        /** The CELL on which most landed, of alike ones the least; NEVER: nothing went. */
        int fullestCell() {
            int fullest = NEVER;
            int most = 0;
            for (int i = 0; i < fallenCount; i++) {
                int cell = cellOf[order[i]];
                int many = landedOn(cell);
                if (many > most || many == most && cell < fullest) {
                    fullest = cell;
                    most = many;
                }
            }
            return fullest;
        }

        private int landedOn(int cell) {
            int many = 0;
            for (int i = 0; i < fallenCount; i++) {
                if (cellOf[order[i]] == cell) {
                    many++;
                }
            }
            return many;
        }
    }

    /** What would be with other DOORS, more nails, no MOSS, FELT, or no neglect. */
    private static final class Planner {
        final int[] nails = new int[MOST_NAILING];
        final int[] steps = new int[MOST_STEPS];
        int nailsCount;
        int nailsHarm;
        int stepsCount;
        int stepsHarm;
        private final Gale gale;
        private final Scene now;
        private final Roof trial = new Roof();
        /** The n by which nails and steps were chosen for the ROOF as it is; NONE: for none. */
        private int nailsFor;
        private int stepsFor;

        Planner(Gale gale, Scene now) {
            this.gale = gale;
            this.now = now;
            nailsFor = NONE;
            stepsFor = NONE;
        }

        void forget() {
            nailsFor = NONE;
            stepsFor = NONE;
        }

        /** HARM; not worked out to the end once it is 'enough', as such a choice is lost then. */
        int harmOf(Roof roof, int enough) {
            int sum = 0;
            for (int g = 0; g < now.gusts && sum < enough; g++) {
                gale.run(roof, now.gustPower[g], now.gustWay[g], false);
                sum += now.gustWeight[g] * gale.fallenCount;
            }
            return sum;
        }

        private int fallenFrom(Roof roof, int gust, int way) {
            gale.run(roof, gust, way, false);
            return gale.fallenCount;
        }

        int bestDoors(int gust, int way, int doors) {
            trial.copyFrom(now.roof);
            int best = 0;
            int fewest = UNBOUNDED;
            for (int bits = 0; bits < 1 << doors; bits++) {
                trial.openDoors = bits;
                int many = fallenFrom(trial, gust, way);
                boolean fewerOpen = Integer.bitCount(bits) < Integer.bitCount(best);
                if (many < fewest || many == fewest && fewerOpen) {
                    best = bits;
                    fewest = many;
                }
            }
            return best;
        }

        int helpOf(int door, int gust, int way) {
            trial.copyFrom(now.roof);
            trial.openDoors ^= 1 << door;
            int asItIsNot = fallenFrom(trial, gust, way);
            return fallenFrom(now.roof, gust, way) - asItIsNot;
        }

        /** None, then single ones, then pairs, each by numbers: so the first least one is the one. */
        void chooseNails(int n) {
            if (nailsFor == n) {
                return;
            }
            nailsFor = n;
            nailsCount = 0;
            nailsHarm = harmOf(now.roof, UNBOUNDED);
            trial.copyFrom(now.roof);
            if (n >= 1) {
                for (int t = 0; t < trial.tiles && nailsHarm > 0; t++) {
                    tryNail(t);
                }
            }
            if (n >= 2) {
                for (int t = 0; t < trial.tiles && nailsHarm > 0; t++) {
                    tryPairs(t);
                }
            }
        }

        private void tryNail(int tile) {
            if (!trial.canBeNailed(tile)) {
                return;
            }
            trial.nailAnew(tile);
            int harm = harmOf(trial, nailsHarm);
            if (harm < nailsHarm) {
                nailsHarm = harm;
                nailsCount = 1;
                nails[0] = tile;
            }
            trial.unnail(tile, now.roof.marks[AGE][tile]);
        }

        private void tryPairs(int low) {
            if (!trial.canBeNailed(low)) {
                return;
            }
            trial.nailAnew(low);
            for (int high = low + 1; high < trial.tiles && nailsHarm > 0; high++) {
                if (trial.canBeNailed(high)) {
                    trial.nailAnew(high);
                    int harm = harmOf(trial, nailsHarm);
                    if (harm < nailsHarm) {
                        nailsHarm = harm;
                        nailsCount = 2;
                        nails[0] = low;
                        nails[1] = high;
                    }
                    trial.unnail(high, now.roof.marks[AGE][high]);
                }
            }
            trial.unnail(low, now.roof.marks[AGE][low]);
        }

        void chooseSteps(int n) {
            if (stepsFor == n) {
                return;
            }
            stepsFor = n;
            stepsCount = 0;
            stepsHarm = harmOf(now.roof, UNBOUNDED);
            trial.copyFrom(now.roof);
            for (int i = 0; i < n && i < MOST_STEPS; i++) {
                int tile = bestStep();
                if (tile == NONE) {
                    return;
                }
                trial.nailAnew(tile);
                steps[i] = tile;
                stepsCount++;
            }
        }

        /** The TILE whose nail leaves the least HARM, which becomes stepsHarm; NONE: none leaves less. */
        private int bestStep() {
            int best = NONE;
            for (int t = 0; t < trial.tiles && stepsHarm > 0; t++) {
                if (trial.canBeNailed(t)) {
                    trial.nailAnew(t);
                    int harm = harmOf(trial, stepsHarm);
                    if (harm < stepsHarm) {
                        stepsHarm = harm;
                        best = t;
                    }
                    trial.unnail(t, now.roof.marks[AGE][t]);
                }
            }
            return best;
        }

        int thirds() {
            trial.copyFrom(now.roof);
            for (int t = 0; t < trial.tiles; t += 3) {
                if (trial.canBeNailed(t)) {
                    trial.nailAnew(t);
                }
            }
            return harmOf(trial, UNBOUNDED);
        }

        int mossless() {
            trial.copyFrom(now.roof);
            Arrays.fill(trial.marks[MOSS], 0);
            return harmOf(trial, UNBOUNDED) - harmOf(now.roof, UNBOUNDED);
        }

        int felted() {
            trial.copyFrom(now.roof);
            trial.felted = true;
            int under = harmOf(trial, UNBOUNDED);
            trial.felted = false;
            return under - harmOf(trial, UNBOUNDED);
        }

        int neglected(int gust, int way) {
            trial.copyFrom(now.roof);
            Arrays.fill(trial.marks[THERE], 1);
            Arrays.fill(trial.marks[AGE], 0);
            Arrays.fill(trial.marks[MOSS], 0);
            int cared = fallenFrom(trial, gust, way);
            return fallenFrom(now.roof, gust, way) - cared;
        }
    }

    /** A night of GUSTS, and YEARS by LOTS. */
    private static final class Fate {
        private final Gale gale;
        private final Scene now;
        private final Roof trial = new Roof();

        Fate(Gale gale, Scene now) {
            this.gale = gale;
            this.now = now;
        }

        int nightTill(int many) {
            trial.copyFrom(now.roof);
            int gone = trial.goneCount();
            if (gone >= many) {
                return 0;
            }
            int next = 0;
            for (int i = 1; i <= MOST_IN_NIGHT && now.gusts > 0; i++) {
                gone += lostTo(now.gustPower[next], now.gustWay[next]);
                if (gone >= many) {
                    return i;
                }
                next = next + 1 < now.gusts ? next + 1 : 0;
            }
            return NEVER;
        }

        int goneBehind(int seed, int years) {
            trial.copyFrom(now.roof);
            int gone = trial.goneCount();
            for (int y = 0; y < years && gone < trial.tiles; y++) {
                gone += lostIn(seed, y);
            }
            return gone;
        }

        int firstBadYear(int seed) {
            trial.copyFrom(now.roof);
            for (int y = 0; y < MOST_YEARS; y++) {
                if (lostIn(seed, y) > 0) {
                    return y;
                }
            }
            return NEVER;
        }

        private int lostIn(int seed, int year) {
            int[] ages = trial.marks[AGE];
            for (int t = 0; t < trial.tiles; t++) {
                ages[t] = Math.min(TOP_MARK, ages[t] + 1);
            }
            return lostTo(lot(seed, 2 * year, GUSTS), lot(seed, 2 * year + 1, WAYS));
        }

        private int lostTo(int gust, int way) {
            gale.run(trial, gust, way, false);
            trial.lose(gale);
            return gale.fallenCount;
        }

        /** LOT n, by the document's own mixing. */
        private static int lot(int seed, int which, int n) {
            int h = mixed(mixed(seed, 16), which);
            return n <= 0 ? 0 : (h >>> 1) % n;
        }

        private static int mixed(int h, int with) {
            int next = (h ^ with) * 1103515245 + 12345;
            return next ^ next >>> 15;
        }
    }

    /** From what lies in the YARD back to the GUST. */
    private static final class Teller {
        int bestGust;
        int bestWay;
        int leastApart;
        int firstTile;
        /** Whether the answers above are for the ROOF and the YARD as they are. */
        boolean fresh;
        private final Gale gale;
        private final Scene now;
        private final Roof whole = new Roof();
        private final int[] landed = new int[CELLS];

        Teller(Gale gale, Scene now) {
            this.gale = gale;
            this.now = now;
        }

        void findGust() {
            if (fresh) {
                return;
            }
            fresh = true;
            whole.copyFrom(now.roof);
            Arrays.fill(whole.marks[THERE], 1);
            int lying = now.lyingInAll();
            leastApart = UNBOUNDED;
            for (int gust = 0; gust < GUSTS; gust++) {
                for (int way = 0; way < WAYS; way++) {
                    gale.run(whole, gust, way, true);
                    int apart = lying + apartByLanded();
                    if (apart < leastApart) {
                        leastApart = apart;
                        bestGust = gust;
                        bestWay = way;
                        firstTile = gale.fallenCount > 0 ? gale.order[0] : NEVER;
                    }
                }
            }
        }

        /** How much further apart than with nothing landed: a TILE that lies there too brings it nearer. */
        private int apartByLanded() {
            int apart = 0;
            for (int i = 0; i < gale.fallenCount; i++) {
                int index = cellIndex(gale.cellOf[gale.order[i]]);
                if (index != NONE) {
                    landed[index]++;
                    apart += landed[index] <= now.lying[index] ? -1 : 1;
                }
            }
            for (int i = 0; i < gale.fallenCount; i++) {
                int index = cellIndex(gale.cellOf[gale.order[i]]);
                if (index != NONE) {
                    landed[index] = 0;
                }
            }
            return apart;
        }
    }

    /** FACTS, as KNOWN by n of them. */
    private static final class Village {
        int facts;
        int houses;
        int warnedOnes;
        int hurt;
        int both;
        int lineAge;
        int toldRight;
        private final int[] ages = new int[MOST_FACTS];
        private final int[] ways = new int[MOST_FACTS];
        private final int[] nails = new int[MOST_FACTS];
        private final int[] losses = new int[MOST_FACTS];
        /** The FACT that a VOID names; NONE: it is a HOUSE. */
        private final int[] voids = new int[MOST_FACTS];
        private final int[] known = new int[MOST_FACTS];

        int addHouse(int age, int way, int nailCount, int lost) {
            if (facts >= MOST_FACTS) {
                return NONE;
            }
            ages[facts] = age;
            ways[facts] = way;
            nails[facts] = nailCount;
            losses[facts] = lost;
            voids[facts] = NONE;
            facts++;
            return facts - 1;
        }

        int addVoid(int fact) {
            if (facts >= MOST_FACTS || fact < 0 || fact >= facts || voids[fact] != NONE) {
                return NONE;
            }
            voids[facts] = fact;
            facts++;
            return facts - 1;
        }

        private void know(int n) {
            for (int i = 0; i < n; i++) {
                known[i] = voids[i] == NONE ? 1 : 0;
            }
            for (int i = 0; i < n; i++) {
                if (voids[i] != NONE) {
                    known[voids[i]] = 0;
                }
            }
        }

        void tally(int n, int c, Told told, Machine machine) {
            know(n);
            houses = 0;
            warnedOnes = 0;
            hurt = 0;
            both = 0;
            for (int i = 0; i < n; i++) {
                if (known[i] == 1) {
                    int warns = machine.warns(told, ages[i], ways[i], nails[i]);
                    int hurts = losses[i] >= c ? 1 : 0;
                    houses++;
                    warnedOnes += warns;
                    hurt += hurts;
                    both += warns & hurts;
                }
            }
        }

        long waysToDoAsWell() {
            long sum = 0;
            for (int taken = both; taken <= hurt && taken <= warnedOnes; taken++) {
                sum += choose(hurt, taken) * choose(houses - hurt, warnedOnes - taken);
            }
            return sum;
        }

        /** Ways to take k of n: for 60 at most, no step leaves a long. */
        static long choose(int n, int k) {
            if (k < 0 || k > n) {
                return 0;
            }
            long ways = 1;
            for (int i = 1; i <= k; i++) {
                ways = ways * (n - k + i) / i;
            }
            return ways;
        }

        void drawLine(int n, int c) {
            know(n);
            toldRight = NONE;
            for (int age = 0; age <= TOP_LINE; age++) {
                int right = rightBy(age, n, c);
                if (right > toldRight) {
                    toldRight = right;
                    lineAge = age;
                }
            }
        }

        private int rightBy(int age, int n, int c) {
            int right = 0;
            for (int i = 0; i < n; i++) {
                if (known[i] == 1 && ages[i] >= age == losses[i] >= c) {
                    right++;
                }
            }
            return right;
        }
    }
}
