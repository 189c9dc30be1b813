import java.util.Arrays;

/** Fighters in one ring of cells, their wars and their tables; the document's promises are its methods. */
public final class RingWars {
    public static final int NONE = -1, BAD = -2, STATE = -3, FULL = -4;
    public static final long NO = Long.MIN_VALUE;

    private static final int NOTHING = -11, CAST = -12, PLACE = -13, SIZE = -14;
    /** "None" where the answers themselves are sides, turns, orders or fighters. */
    private static final int NOBODY = -5;
    /** A FAULT at place p is answered as this less p. */
    private static final int FAULT_BASE = -10;

    private static final int CELLS = 0, LIMIT = 1, MOST = 2, REACH = 3;
    private static final int[] PHYSICS_LEAST = {8, 1, 1, 1};
    private static final int[] PHYSICS_GREATEST = {32, 150, 8, 32};
    private static final int[] PHYSICS_AT_FIRST = {16, 100, 4, 32};

    private static final int CELLS_AT_MOST = 32, THREADS_AT_MOST = 8, SIDES_AT_MOST = 4, TURNS_AT_MOST = 150;
    private static final int FIGHTERS_AT_MOST = 8, ORDERS_AT_MOST = 8, TEXT_AT_MOST = 150, NUMBER_AT_MOST = 99;
    private static final int TAPES = 6, TAPE_AT_MOST = 60;

    /** An ORDER's items, as they stand in fighters, on tapes and at the head of a cell's items. */
    private static final int KIND = 0, MODE_A = 1, NUMBER_A = 2, MODE_B = 3, NUMBER_B = 4, ORDER_ITEMS = 5;
    private static final int OWNER = 5, HEAT = 6, CELL_ITEMS = 7;
    private static final int[] EMPTY_CELL = {0, 4, 0, 4, 0, NOBODY, 0};

    private static final int DIE = 0, COPY = 1, ADD = 2, JUMP = 3, IFZ = 4, SKIP = 5, SPLIT = 6, KINDS = 7;
    /** The KIND above each. */
    private static final int[] ABOVE = {-1, DIE, COPY, DIE, JUMP, DIE, JUMP};

    private static final int DIRECT = 0, BEFORE = 2, BEHIND = 3, ITSELF = 4;

    private static final int BYTES = 0, SHORTS = 1, INTS = 2, LONGS = 3, BOOLEANS = 4;

    private final int[] physics;
    private final War war;
    private final War picture;
    private boolean pictured;
    private final Fighter[] fighters;
    private int many;
    private final Text text;
    private final Trials trials;
    private final Die[] kinds;
    private Die latest;
    private final long[][] rows;
    private final int[] sorts;
    private final int[] sizes;

    public RingWars() {
        physics = Arrays.copyOf(PHYSICS_AT_FIRST, PHYSICS_AT_FIRST.length);
        war = new War(physics);
        war.empty();
        picture = new War(physics);
        fighters = new Fighter[FIGHTERS_AT_MOST];
        for (int f = 0; f < FIGHTERS_AT_MOST; f++) {
            fighters[f] = new Fighter();
        }
        text = new Text();
        trials = new Trials(physics, fighters);
        kinds = new Die[] {new Die(), new Copy(), new Add(), new Jump(), new Ifz(), new Skip(), new Split()};
        latest = kinds[DIE];
        rows = new long[TAPES][TAPE_AT_MOST];
        sorts = new int[TAPES];
        Arrays.fill(sorts, -1);
        sizes = new int[TAPES];
    }

    // ---- physics, fighters

    public int physics(int what, int n) {
        if (what < CELLS || what > REACH) {
            return NONE;
        }
        if (n < PHYSICS_LEAST[what] || n > PHYSICS_GREATEST[what]) {
            return BAD;
        }
        if (war.sides > 0) {
            return STATE;
        }
        int was = physics[what];
        physics[what] = n;
        war.empty();
        trials.forget();
        return was;
    }

    public int feed(int bytes, int n) {
        if (n < 0 || n > 4) {
            return BAD;
        }
        if (text.size + n > TEXT_AT_MOST) {
            return FULL;
        }
        for (int k = n - 1; k >= 0; k--) {
            text.take((bytes >>> (8 * k)) & 255);
        }
        return text.size;
    }

    public int fighter() {
        if (many >= FIGHTERS_AT_MOST) {
            return FULL;
        }
        int fault = text.parseInto(fighters[many]);
        text.size = 0;
        if (fault >= 0) {
            return FAULT_BASE - fault;
        }
        many++;
        return many - 1;
    }

    public int load(int tape, int i, int n) {
        if (!isTape(tape)) {
            return NONE;
        }
        if (n < 1 || n > ORDERS_AT_MOST) {
            return BAD;
        }
        if (many >= FIGHTERS_AT_MOST) {
            return FULL;
        }
        if (sorts[tape] < 0) {
            return NOTHING;
        }
        if (sorts[tape] != SHORTS) {
            return CAST;
        }
        if (i < 0 || i > sizes[tape] - n * ORDER_ITEMS) {
            return PLACE;
        }
        if (!fighters[many].fill(rows[tape], i, n)) {
            return BAD;
        }
        many++;
        return many - 1;
    }

    public long of(int fighter, int i, int what) {
        if (!isFighter(fighter)) {
            return NO;
        }
        Fighter told = fighters[fighter];
        if (i == -1) {
            return told.length;
        }
        if (i < 0 || i >= told.length || what < KIND || what > NUMBER_B) {
            return NO;
        }
        return told.items[i * ORDER_ITEMS + what];
    }

    // ---- the war

    public int clear() {
        int sides = war.sides;
        war.empty();
        return sides;
    }

    public int set(int fighter, int cell) {
        if (!isFighter(fighter) || !isCell(cell)) {
            return NONE;
        }
        if (war.turns > 0) {
            return STATE;
        }
        if (war.sides >= SIDES_AT_MOST) {
            return FULL;
        }
        war.setDown(fighters[fighter], cell);
        return war.sides - 1;
    }

    public int run(int n) {
        if (n < 1 || n > TURNS_AT_MOST) {
            return BAD;
        }
        if (war.isOver()) {
            return STATE;
        }
        return war.advance(n);
    }

    public int cell(int cell, int what) {
        if (!isCell(cell) || what < KIND || what > HEAT) {
            return NONE;
        }
        return war.items[cell * CELL_ITEMS + what];
    }

    public int thread(int side, int i) {
        if (!isSide(side)) {
            return NONE;
        }
        if (i == -1) {
            return war.alive[side];
        }
        if (i < 0 || i >= war.alive[side]) {
            return NONE;
        }
        return war.threads[side * THREADS_AT_MOST + i];
    }

    public int died(int side, int what) {
        if (!isSide(side) || what < 0 || what > 1) {
            return NONE;
        }
        return what == 0 ? war.ends[side] : war.killers[side];
    }

    public int state(int what) {
        switch (what) {
            case 0:
                return war.turns;
            case 1:
                return war.isOver() ? 1 : 0;
            case 2:
                return war.hottest();
            case 3:
                return war.living();
            default:
                return NONE;
        }
    }

    // ---- duels, tables

    public int duel(int f, int g, int d, int what) {
        if (!isFighter(f) || !isFighter(g) || what < 0 || what > 1) {
            return NONE;
        }
        if (!isCell(d)) {
            return BAD;
        }
        int verdict = trials.fight(fighters[f], fighters[g], d);
        return what == 0 ? verdict + 1 : trials.turns();
    }

    public int all(int f, int g, int what) {
        if (!isFighter(f) || !isFighter(g) || what < 0 || what > 2) {
            return NONE;
        }
        trials.learn(f, g, g + 1);
        return trials.score(f, g, what);
    }

    public int key(int f, int g) {
        if (!isFighter(f) || !isFighter(g)) {
            return NONE;
        }
        return trials.keyOrder(fighters[f], fighters[g]);
    }

    public int tune(int f, int i, int which, int g) {
        if (!isFighter(f) || !isFighter(g)) {
            return NONE;
        }
        if (i < 0 || i >= fighters[f].length || which < 0 || which > 1) {
            return NONE;
        }
        int item = i * ORDER_ITEMS + (which == 0 ? NUMBER_A : NUMBER_B);
        return trials.bestNumber(fighters[f], item, fighters[g]);
    }

    public int worth(int f) {
        if (!isFighter(f)) {
            return NONE;
        }
        trials.learn(f, 0, many);
        return trials.worthOf(f, many);
    }

    public int ladder(int i) {
        if (!isFighter(i)) {
            return NONE;
        }
        for (int f = 0; f < many; f++) {
            trials.learn(f, 0, many);
        }
        return trials.onLadder(i, many);
    }

    public int ring(int i) {
        if (i < 0 || i > 2) {
            return NONE;
        }
        for (int f = 0; f < many; f++) {
            trials.learn(f, 0, many);
        }
        return trials.inRing(i, many);
    }

    public int unlike(int f, int g) {
        if (!isFighter(f) || !isFighter(g)) {
            return NONE;
        }
        trials.learn(f, 0, many);
        trials.learn(g, 0, many);
        return trials.apart(f, g, many);
    }

    public int garden(int set, int what) {
        if (what < 0 || what > 1) {
            return NONE;
        }
        int size = Integer.bitCount(set);
        if ((set >>> many) != 0 || size < 2 || size > SIDES_AT_MOST) {
            return BAD;
        }
        int alive = trials.grow(set, size);
        return what == 0 ? alive : trials.turns();
    }

    public int sturdy(int f) {
        return isFighter(f) ? trials.sturdiness(fighters[f]) : NONE;
    }

    public int round(int f) {
        return isFighter(f) ? trials.period(fighters[f]) : NONE;
    }

    public int same(int f, int g) {
        if (!isFighter(f) || !isFighter(g)) {
            return NONE;
        }
        return trials.parting(fighters[f], fighters[g]);
    }

    // ---- the image, acts, tapes

    public int image() {
        picture.become(war);
        pictured = true;
        return war.turns;
    }

    public int back() {
        if (!pictured || picture.cells != physics[CELLS]) {
            return STATE;
        }
        war.become(picture);
        return war.turns;
    }

    public int act(int cell, int act, int x) {
        if (!isCell(cell) || act < 0 || act > 2) {
            latest.begin(0, 0);
            return 0;
        }
        latest = kinds[war.items[cell * CELL_ITEMS + KIND]];
        latest.begin(cell, war.items[cell * CELL_ITEMS + NUMBER_B]);
        switch (act) {
            case 0:
                return latest.reads(x);
            case 1:
                return latest.does(x);
            default:
                return latest.ends(x);
        }
    }

    public int trace(int i) {
        if (i < 0 || i >= latest.ran || i >= latest.bodies.length) {
            return NONE;
        }
        return latest.bodies[i];
    }

    public int taken(int cell, int k) {
        if (k < DIE || k >= KINDS) {
            return BAD;
        }
        if (!isCell(cell)) {
            return NOTHING;
        }
        int kind = war.items[cell * CELL_ITEMS + KIND];
        int above = kind;
        for (int hop = 0; hop < KINDS && above >= DIE; hop++) {
            if (above == k) {
                return kind;
            }
            above = ABOVE[above];
        }
        return CAST;
    }

    public int count(int what) {
        switch (what) {
            case 0:
            case 1:
            case 2:
            case 3:
                return physics[what];
            case 4:
                return many;
            case 5:
                return war.sides;
            case 6:
                return text.size;
            case 7:
                return latest.ran;
            default:
                return BAD;
        }
    }

    public int tape(int tape, int sort, int n) {
        if (!isTape(tape)) {
            return NONE;
        }
        if (sort == -1) {
            sorts[tape] = -1;
            sizes[tape] = 0;
            return 1;
        }
        if (sort < BYTES || sort > BOOLEANS || n > TAPE_AT_MOST) {
            return BAD;
        }
        if (n < 0) {
            return SIZE;
        }
        sorts[tape] = sort;
        sizes[tape] = n;
        Arrays.fill(rows[tape], 0L);
        return 1;
    }

    public int item(int tape, int i, long v) {
        if (!isTape(tape)) {
            return NONE;
        }
        if (sorts[tape] < 0) {
            return NOTHING;
        }
        if (i < 0 || i >= sizes[tape]) {
            return PLACE;
        }
        rows[tape][i] = cut(sorts[tape], v);
        return 1;
    }

    public long read(int tape, int i) {
        if (!isTape(tape) || i < 0 || i >= sizes[tape]) {
            return NO;
        }
        return rows[tape][i];
    }

    public int shift(int tape, int i, int other, int j, int n) {
        if (!isTape(tape) || !isTape(other)) {
            return NONE;
        }
        if (sorts[tape] < 0 || sorts[other] < 0) {
            return NOTHING;
        }
        if (sorts[tape] != sorts[other]) {
            return CAST;
        }
        if (n < 0 || i < 0 || j < 0 || i > sizes[tape] - n || j > sizes[other] - n) {
            return PLACE;
        }
        System.arraycopy(rows[tape], i, rows[other], j, n);
        return n;
    }

    private boolean isFighter(int f) {
        return f >= 0 && f < many;
    }

    private boolean isCell(int cell) {
        return cell >= 0 && cell < physics[CELLS];
    }

    private boolean isSide(int side) {
        return side >= 0 && side < war.sides;
    }

    private static boolean isTape(int tape) {
        return tape >= 0 && tape < TAPES;
    }

    /** What an item of a sort keeps of a number. */
    private static long cut(int sort, long v) {
        switch (sort) {
            case BYTES:
                return (byte) v;
            case SHORTS:
                return (short) v;
            case INTS:
                return (int) v;
            case LONGS:
                return v;
            default:
                return v != 0 ? 1 : 0;
        }
    }

    /** A FIGHTER: its ORDERS as told. */
    private static final class Fighter {
        int length;
        final int[] items = new int[ORDERS_AT_MOST * ORDER_ITEMS];

        void become(Fighter other) {
            length = other.length;
            System.arraycopy(other.items, 0, items, 0, items.length);
        }

        void leaveOut(int order) {
            System.arraycopy(EMPTY_CELL, 0, items, order * ORDER_ITEMS, ORDER_ITEMS);
        }

        /** Takes the orders from a tape's row, or answers false as one of them is none. */
        boolean fill(long[] row, int from, int orders) {
            length = orders;
            for (int k = 0; k < orders * ORDER_ITEMS; k++) {
                int v = (int) row[from + k];
                if (!fits(k % ORDER_ITEMS, v)) {
                    return false;
                }
                items[k] = v;
            }
            return true;
        }

        private static boolean fits(int item, int v) {
            switch (item) {
                case KIND:
                    return v >= DIE && v < KINDS;
                case MODE_A:
                case MODE_B:
                    return v >= DIRECT && v <= ITSELF;
                default:
                    return v >= -NUMBER_AT_MOST && v <= NUMBER_AT_MOST;
            }
        }
    }

    /** THE TEXT, and how it is read: where a reading method answers false, {@code at} is the FAULT. */
    private static final class Text {
        private static final int NAMES = 6;
        /** The words by KINDS, one behind the other, and where each begins (the last: where all end). */
        private static final String WORDS = "diecopyaddjumpifzskipsplit";
        private static final int[] WORD_STARTS = {0, 3, 7, 10, 14, 17, 21, 26};
        private static final int[] ADDRESSES = {0, 2, 2, 1, 2, 2, 1};
        /** The signs by MODES. */
        private static final String SIGNS = ".@<>#";

        int size;
        private final int[] bytes = new int[TEXT_AT_MOST];
        private int at;
        /** The order that each name stands ahead of, or -1. */
        private final int[] told = new int[NAMES];
        /** The place of the name that an address has for its number, or -1; two for each order. */
        private final int[] named = new int[ORDERS_AT_MOST * 2];

        void take(int b) {
            if (size < TEXT_AT_MOST) {
                bytes[size] = b;
                size++;
            }
        }

        /** Reads the whole into a fighter: -1, or the FAULT. */
        int parseInto(Fighter f) {
            at = 0;
            f.length = 0;
            Arrays.fill(told, -1);
            Arrays.fill(named, -1);
            for (int i = 0; i < ORDERS_AT_MOST; i++) {
                if (!parseOrder(f)) {
                    return at;
                }
                if (at >= size) {
                    return linkNames(f);
                }
                if (f.length >= ORDERS_AT_MOST || !accept(';')) {
                    return at;
                }
            }
            return at;
        }

        private boolean parseOrder(Fighter f) {
            if (f.length >= ORDERS_AT_MOST) {
                return false;
            }
            int start = at;
            int name = nameHere();
            boolean fresh = name >= 0 && told[name] < 0;
            if (fresh && byteAt(at + 1) == ':') {
                told[name] = f.length;
                at += 2;
            }
            int kind = parseWord();
            if (kind < 0) {
                // a name that is still free may stand here even where no word begins so
                at = fresh ? Math.max(at, start + 1) : at;
                return false;
            }
            f.items[f.length * ORDER_ITEMS + KIND] = kind;
            for (int k = 0; k < 2; k++) {
                if (!parseAddress(f, k, k < ADDRESSES[kind])) {
                    return false;
                }
            }
            f.length++;
            return true;
        }

        /** The KIND whose word stands here, or -1. */
        private int parseWord() {
            int longest = 0;
            for (int kind = 0; kind < KINDS; kind++) {
                int from = WORD_STARTS[kind];
                int whole = WORD_STARTS[kind + 1] - from;
                int length = 0;
                while (length < whole && WORDS.charAt(from + length) == byteAt(at + length)) {
                    length++;
                }
                if (length == whole) {
                    at += length;
                    return kind;
                }
                longest = Math.max(longest, length);
            }
            at += longest;
            return -1;
        }

        /** Reads address k (0: A, 1: B) of the order that is being read, or puts what stands for one that is not told. */
        private boolean parseAddress(Fighter f, int k, boolean isTold) {
            int item = f.length * ORDER_ITEMS + (k == 0 ? MODE_A : MODE_B);
            f.items[item] = ITSELF;
            f.items[item + 1] = 0;
            if (!isTold) {
                return true;
            }
            if (!accept(' ') || byteAt(at) < 0) {
                return false;
            }
            int mode = SIGNS.indexOf((char) byteAt(at));
            if (mode < 0) {
                return false;
            }
            at++;
            f.items[item] = mode;
            if (nameHere() >= 0) {
                named[f.length * 2 + k] = at;
                at++;
                return true;
            }
            return parseNumber(f, item + 1);
        }

        private boolean parseNumber(Fighter f, int item) {
            boolean below = accept('-');
            if (!isDigit(byteAt(at))) {
                return false;
            }
            int number = byteAt(at) - '0';
            at++;
            if (isDigit(byteAt(at))) {
                number = number * 10 + byteAt(at) - '0';
                at++;
            }
            f.items[item] = below ? -number : number;
            return true;
        }

        /** Puts how far on names are for the names: -1, or the place of the first that is told nowhere. */
        private int linkNames(Fighter f) {
            for (int slot = 0; slot < f.length * 2; slot++) {
                int place = named[slot];
                if (place >= 0) {
                    int order = told[bytes[place] - 'a'];
                    if (order < 0) {
                        return place;
                    }
                    int item = slot / 2 * ORDER_ITEMS + (slot % 2 == 0 ? NUMBER_A : NUMBER_B);
                    f.items[item] = order - slot / 2;
                }
            }
            return -1;
        }

        private int byteAt(int place) {
            return place < size ? bytes[place] : -1;
        }

        private boolean accept(char sign) {
            if (byteAt(at) != sign) {
                return false;
            }
            at++;
            return true;
        }

        private int nameHere() {
            int name = byteAt(at) - 'a';
            return name >= 0 && name < NAMES ? name : -1;
        }

        private static boolean isDigit(int b) {
            return b >= '0' && b <= '9';
        }
    }

    /** A war: the ring, its sides and their threads. Numbers of cells are always 0 .. cells - 1. */
    private static final class War {
        private final int[] physics;
        int cells;
        final int[] items = new int[CELLS_AT_MOST * CELL_ITEMS];
        int sides;
        /** How many sides have threads. */
        private int standing;
        int turns;
        /** The side that did the latest turn, or -1. */
        private int mover;
        /** How many threads each side has, and where they are, the next first. */
        final int[] alive = new int[SIDES_AT_MOST];
        final int[] threads = new int[SIDES_AT_MOST * THREADS_AT_MOST];
        final int[] ends = new int[SIDES_AT_MOST];
        final int[] killers = new int[SIDES_AT_MOST];
        /** The cell that was written last in the latest turn, or -1. */
        int written;
        /** Where the step is done, and the order as it was when the step began. */
        private int here;
        private final int[] order = new int[ORDER_ITEMS];

        War(int[] physics) {
            this.physics = physics;
        }

        void empty() {
            cells = physics[CELLS];
            for (int cell = 0; cell < CELLS_AT_MOST; cell++) {
                System.arraycopy(EMPTY_CELL, 0, items, cell * CELL_ITEMS, CELL_ITEMS);
            }
            sides = 0;
            standing = 0;
            turns = 0;
            mover = -1;
        }

        void become(War other) {
            cells = other.cells;
            sides = other.sides;
            standing = other.standing;
            turns = other.turns;
            mover = other.mover;
            System.arraycopy(other.items, 0, items, 0, items.length);
            System.arraycopy(other.alive, 0, alive, 0, SIDES_AT_MOST);
            System.arraycopy(other.threads, 0, threads, 0, threads.length);
            System.arraycopy(other.ends, 0, ends, 0, SIDES_AT_MOST);
            System.arraycopy(other.killers, 0, killers, 0, SIDES_AT_MOST);
        }

        void setDown(Fighter f, int at) {
            if (sides >= SIDES_AT_MOST) {
                return;
            }
            for (int i = 0; i < f.length; i++) {
                int cell = wrap(at + i) * CELL_ITEMS;
                System.arraycopy(f.items, i * ORDER_ITEMS, items, cell, ORDER_ITEMS);
                items[cell + NUMBER_A] = rest(items[cell + NUMBER_A]);
                items[cell + NUMBER_B] = rest(items[cell + NUMBER_B]);
                items[cell + OWNER] = sides;
            }
            alive[sides] = 1;
            threads[sides * THREADS_AT_MOST] = at;
            ends[sides] = NOBODY;
            killers[sides] = NOBODY;
            sides++;
            standing++;
        }

        /** Sets f down at 0, and nobody else. */
        void stage(Fighter f) {
            empty();
            setDown(f, 0);
        }

        void stageDuel(Fighter f, Fighter g, int d) {
            stage(f);
            setDown(g, d);
        }

        boolean isOver() {
            return turns >= physics[LIMIT] || standing <= (sides > 1 ? 1 : 0);
        }

        /** Who has threads, as bits. */
        int living() {
            int bits = 0;
            for (int side = 0; side < sides; side++) {
                if (alive[side] > 0) {
                    bits |= 1 << side;
                }
            }
            return bits;
        }

        /** Of two sides: 1 if the second alone is dead, -1 if the first alone, else 0. */
        int verdict() {
            int living = living();
            return living == 1 ? 1 : living == 2 ? -1 : 0;
        }

        int hottest() {
            int best = 0;
            for (int cell = 1; cell < cells; cell++) {
                if (items[cell * CELL_ITEMS + HEAT] > items[best * CELL_ITEMS + HEAT]) {
                    best = cell;
                }
            }
            return best;
        }

        /** Whether all orders and the first side's threads are as the other's. */
        boolean isAs(War other) {
            for (int cell = 0; cell < cells; cell++) {
                if (!areAlike(items, cell, other.items, cell)) {
                    return false;
                }
            }
            boolean like = alive[0] == other.alive[0];
            for (int i = 0; like && i < alive[0]; i++) {
                like = threads[i] == other.threads[i];
            }
            return like;
        }

        /** Does n turns, or fewer till it is over: how many. */
        int advance(int n) {
            int done = 0;
            while (done < n && !isOver()) {
                turn();
                done++;
            }
            return done;
        }

        /** One turn; nothing comes of it where no side has threads. */
        void turn() {
            written = -1;
            int side = nextSide();
            if (side < 0) {
                return;
            }
            mover = side;
            turns++;
            here = threads[side * THREADS_AT_MOST];
            System.arraycopy(items, here * CELL_ITEMS, order, 0, ORDER_ITEMS);
            int owner = items[here * CELL_ITEMS + OWNER];
            int a = find(order[MODE_A], order[NUMBER_A]);
            int b = find(order[MODE_B], order[NUMBER_B]);
            boolean splits = order[KIND] == SPLIT && alive[side] < physics[MOST];
            removeFirst();
            if (order[KIND] != DIE) {
                append(perform(a, b));
            } else if (alive[side] == 0) {
                standing--;
                ends[side] = turns;
                killers[side] = owner;
            }
            if (splits) {
                append(a);
            }
        }

        private int nextSide() {
            int side = mover;
            for (int k = 0; k < sides; k++) {
                side = side + 1 < sides ? side + 1 : 0;
                if (alive[side] > 0) {
                    return side;
                }
            }
            return -1;
        }

        /** PLACE of an address; what its mode writes is written. */
        private int find(int mode, int number) {
            if (mode == ITSELF) {
                return here;
            }
            int by = wrap(here + number);
            if (mode == DIRECT) {
                return by;
            }
            int item = by * CELL_ITEMS + NUMBER_B;
            if (mode == BEFORE && write(by)) {
                items[item] = wrap(items[item] + cells - 1);
            }
            int place = wrap(by + items[item]);
            if (mode == BEHIND && write(by)) {
                items[item] = wrap(items[item] + 1);
            }
            return place;
        }

        /** Does what the order does to cells: where its thread is on. */
        private int perform(int a, int b) {
            switch (order[KIND]) {
                case COPY:
                    if (write(b)) {
                        bring(a, b);
                    }
                    return wrap(here + 1);
                case ADD:
                    if (write(b)) {
                        addTo(a, b);
                    }
                    return wrap(here + 1);
                case JUMP:
                    return a;
                case IFZ:
                    return isZero(b) ? a : wrap(here + 1);
                case SKIP:
                    return wrap(here + (isEqual(a, b) ? 2 : 1));
                default:
                    return wrap(here + 1);
            }
        }

        /** Counts a write to a cell: false, and nothing comes of it, beyond reach. */
        private boolean write(int cell) {
            int far = Math.abs(cell - here);
            if (Math.min(far, cells - far) > physics[REACH]) {
                return false;
            }
            items[cell * CELL_ITEMS + OWNER] = mover;
            items[cell * CELL_ITEMS + HEAT]++;
            written = cell;
            return true;
        }

        private void bring(int a, int b) {
            if (order[MODE_A] == ITSELF) {
                items[b * CELL_ITEMS + NUMBER_B] = order[NUMBER_A];
            } else {
                System.arraycopy(items, a * CELL_ITEMS, items, b * CELL_ITEMS, ORDER_ITEMS);
            }
        }

        private void addTo(int a, int b) {
            int from = a * CELL_ITEMS;
            int to = b * CELL_ITEMS;
            if (order[MODE_A] == ITSELF) {
                items[to + NUMBER_B] = wrap(items[to + NUMBER_B] + order[NUMBER_A]);
            } else {
                items[to + NUMBER_A] = wrap(items[to + NUMBER_A] + items[from + NUMBER_A]);
                items[to + NUMBER_B] = wrap(items[to + NUMBER_B] + items[from + NUMBER_B]);
            }
        }

        private boolean isZero(int b) {
            return (order[MODE_B] == ITSELF ? order[NUMBER_B] : items[b * CELL_ITEMS + NUMBER_B]) == 0;
        }

        private boolean isEqual(int a, int b) {
            if (order[MODE_A] == ITSELF) {
                return order[NUMBER_A] == items[b * CELL_ITEMS + NUMBER_B];
            }
            return areAlike(items, a, items, b);
        }

        private static boolean areAlike(int[] items, int a, int[] others, int b) {
            for (int item = 0; item < ORDER_ITEMS; item++) {
                if (items[a * CELL_ITEMS + item] != others[b * CELL_ITEMS + item]) {
                    return false;
                }
            }
            return true;
        }

        private void removeFirst() {
            int first = mover * THREADS_AT_MOST;
            alive[mover]--;
            System.arraycopy(threads, first + 1, threads, first, alive[mover]);
        }

        private void append(int cell) {
            if (alive[mover] < THREADS_AT_MOST) {
                threads[mover * THREADS_AT_MOST + alive[mover]] = cell;
                alive[mover]++;
            }
        }

        /** The rest by cells of a sum of two numbers that are rests themselves. */
        private int wrap(int sum) {
            return sum < cells ? sum : sum - cells;
        }

        private int rest(int number) {
            return cells > 0 ? Math.floorMod(number, cells) : 0;
        }
    }

    /** All that is worked out by wars of its own, beside the war that is set. */
    private static final class Trials {
        private final int[] physics;
        private final Fighter[] fighters;
        private final War arena;
        private final War other;
        private final Fighter spare = new Fighter();
        /** How many duels of the latest tally were 1, 0, -1. */
        private final int[] tally = new int[3];
        /** The tallies of pairs that were fought since physics changed: fighters never change. */
        private final int[] scores = new int[FIGHTERS_AT_MOST * FIGHTERS_AT_MOST * 3];
        private final int[] known = new int[FIGHTERS_AT_MOST * FIGHTERS_AT_MOST];

        Trials(int[] physics, Fighter[] fighters) {
            this.physics = physics;
            this.fighters = fighters;
            arena = new War(physics);
            other = new War(physics);
        }

        void forget() {
            Arrays.fill(known, 0);
        }

        /** How many turns the latest war here took. */
        int turns() {
            return arena.turns;
        }

        int fight(Fighter f, Fighter g, int d) {
            arena.stageDuel(f, g, d);
            arena.advance(physics[LIMIT]);
            return arena.verdict();
        }

        /** Sees to it that the scores of f against fighters from .. to - 1 are known. */
        void learn(int f, int from, int to) {
            for (int g = from; g < to; g++) {
                int pair = f * FIGHTERS_AT_MOST + g;
                if (known[pair] == 0) {
                    fightAll(fighters[f], fighters[g]);
                    System.arraycopy(tally, 0, scores, pair * 3, 3);
                    known[pair] = 1;
                }
            }
        }

        /** Fights at all distances into the tally: the TABLE. */
        private int fightAll(Fighter f, Fighter g) {
            Arrays.fill(tally, 0);
            for (int d = f.length; d <= physics[CELLS] - g.length; d++) {
                arena.stageDuel(f, g, d);
                arena.advance(physics[LIMIT]);
                tally[1 - arena.verdict()]++;
            }
            return tally[0] - tally[2];
        }

        int score(int f, int g, int what) {
            return scores[(f * FIGHTERS_AT_MOST + g) * 3 + what];
        }

        private int table(int f, int g) {
            return score(f, g, 0) - score(f, g, 2);
        }

        private boolean beats(int f, int g) {
            return table(f, g) > 0;
        }

        int keyOrder(Fighter f, Fighter g) {
            if (fightAll(f, g) <= 0) {
                return NOBODY;
            }
            for (int i = 0; i < f.length; i++) {
                spare.become(f);
                spare.leaveOut(i);
                if (fightAll(spare, g) <= 0) {
                    return i;
                }
            }
            return NOBODY;
        }

        int bestNumber(Fighter f, int item, Fighter g) {
            spare.become(f);
            int best = 0;
            int most = 0;
            for (int n = 0; n < physics[CELLS]; n++) {
                spare.items[item] = n;
                int table = fightAll(spare, g);
                if (n == 0 || table > most) {
                    best = n;
                    most = table;
                }
            }
            return best;
        }

        int worthOf(int f, int many) {
            int worth = 0;
            for (int g = 0; g < many; g++) {
                if (g != f) {
                    worth += 3 * score(f, g, 0) + score(f, g, 1);
                }
            }
            return worth;
        }

        int onLadder(int i, int many) {
            for (int f = 0; f < many; f++) {
                int ahead = 0;
                int worth = worthOf(f, many);
                for (int g = 0; g < many; g++) {
                    int more = worthOf(g, many) - worth;
                    if (more > 0 || more == 0 && g < f) {
                        ahead++;
                    }
                }
                if (ahead == i) {
                    return f;
                }
            }
            return NONE;
        }

        int inRing(int i, int many) {
            for (int f = 0; f < many; f++) {
                for (int g = f + 1; g < many; g++) {
                    int h = beats(f, g) ? closer(f, g, many) : NOBODY;
                    if (h != NOBODY) {
                        return i == 0 ? f : i == 1 ? g : h;
                    }
                }
            }
            return NOBODY;
        }

        /** The first above f that g beats and that beats f. */
        private int closer(int f, int g, int many) {
            for (int h = f + 1; h < many; h++) {
                if (h != g && beats(g, h) && beats(h, f)) {
                    return h;
                }
            }
            return NOBODY;
        }

        int apart(int f, int g, int many) {
            int sum = 0;
            for (int k = 0; k < many; k++) {
                sum += Math.abs(table(f, k) - table(g, k));
            }
            return sum;
        }

        /** A GARDEN of a set of so many: who is alive, as bits of fighters. */
        int grow(int set, int size) {
            arena.empty();
            for (int f = 0; f < FIGHTERS_AT_MOST; f++) {
                if (size > 0 && (set >> f & 1) == 1) {
                    arena.setDown(fighters[f], physics[CELLS] * arena.sides / size);
                }
            }
            arena.advance(physics[LIMIT]);
            int alive = 0;
            int side = 0;
            for (int f = 0; f < FIGHTERS_AT_MOST; f++) {
                if ((set >> f & 1) == 1) {
                    alive |= (arena.living() >> side & 1) << f;
                    side++;
                }
            }
            return alive;
        }

        int sturdiness(Fighter f) {
            int alive = 0;
            for (int i = 0; i < f.length; i++) {
                for (int item = NUMBER_A; item <= NUMBER_B; item += NUMBER_B - NUMBER_A) {
                    spare.become(f);
                    spare.items[i * ORDER_ITEMS + item]++;
                    arena.stage(spare);
                    arena.advance(physics[LIMIT]);
                    alive += arena.living() != 0 ? 1 : 0;
                }
            }
            return alive;
        }

        int period(Fighter f) {
            arena.stage(f);
            arena.advance(physics[LIMIT]);
            if (arena.living() == 0) {
                return NOBODY;
            }
            other.become(arena);
            arena.stage(f);
            int period = NOBODY;
            for (int t = 1; t < physics[LIMIT]; t++) {
                arena.turn();
                // the latest turn that is as the last gives the least period
                if (arena.isAs(other)) {
                    period = physics[LIMIT] - t;
                }
            }
            return period;
        }

        int parting(Fighter f, Fighter g) {
            arena.stage(f);
            other.stage(g);
            for (int t = 1; t <= physics[LIMIT]; t++) {
                arena.turn();
                other.turn();
                if (arena.written != other.written || arena.living() != other.living()) {
                    return t;
                }
            }
            return NOBODY;
        }
    }

    /** The acts of a cell of KIND die; the KINDS under it stand as classes under this one. */
    private static class Die {
        /** The cell, and its NUMBER B. */
        int c;
        int b;
        final int[] bodies = new int[20];
        int ran;

        void begin(int cell, int number) {
            c = cell;
            b = number;
            ran = 0;
        }

        final void note(int body) {
            if (ran < bodies.length) {
                bodies[ran] = body;
            }
            ran++;
        }

        int reads(int x) {
            note(10);
            return x + c;
        }

        int does(int x) {
            note(11);
            return reads(x) - b;
        }

        int ends(int x) {
            note(12);
            return does(x) * 2;
        }
    }

    private static class Copy extends Die {
        int does(int x) {
            note(20);
            return super.does(x) ^ 5;
        }
    }

    private static final class Add extends Copy {
        int does(int x) {
            note(30);
            return super.does(x) + super.reads(2);
        }

        int ends(int x) {
            note(31);
            return super.ends(x - 1);
        }
    }

    private static class Jump extends Die {
        int reads(int x) {
            note(40);
            return -super.reads(x);
        }
    }

    private static final class Ifz extends Jump {
        int ends(int x) {
            note(50);
            return does(x) - super.ends(x);
        }
    }

    private static final class Skip extends Die {
        int ends(int x) {
            note(60);
            return super.ends(x) + reads(1);
        }
    }

    private static final class Split extends Jump {
        int reads(int x) {
            note(70);
            return super.reads(x * 3);
        }

        int does(int x) {
            note(71);
            return super.does(x) ^ c;
        }
    }
}
