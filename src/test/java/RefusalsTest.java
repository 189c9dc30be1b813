import java.util.function.Supplier;
import java.util.function.ToLongFunction;

/**
 * Every refusal that a promise names, in a state or some in which it can be had: what is answered, which of several is
 * named, and that nothing is changed by it: two objects that were made alike are looked at all over, of which one was
 * asked in between.
 */
public final class RefusalsTest {
    private static final int NONE = RingWars.NONE, BAD = RingWars.BAD, STATE = RingWars.STATE, FULL = RingWars.FULL;
    private static final int NOTHING = -11, CAST = -12, PLACE = -13, SIZE = -14;
    private static final int MIN = Integer.MIN_VALUE, MAX = Integer.MAX_VALUE;
    private static final Due due = new Due();

    public static void main(String[] args) {
        theLookSeesAll();
        physics();
        feed();
        fighter();
        load();
        of();
        set();
        run();
        cellThreadDiedState();
        duelAllKeyTune();
        worthLadderRingUnlike();
        gardenSturdyRoundSame();
        back();
        traceTakenCount();
        tape();
        item();
        read();
        shift();
        due.end();
    }

    // ---- the states

    /** Three fighters, tapes of some sorts, a text that is begun, an image, a trace, and no war. */
    private static RingWars atPeace() {
        RingWars x = new RingWars();
        x.physics(0, 8);
        x.physics(1, 60);
        x.physics(2, 3);
        x.physics(3, 3);
        Due.fighter(x, "split .2;copy .-1 >3;add #1 .-1");
        Due.fighter(x, "jump .0");
        Due.fighter(x, "die");
        x.tape(0, 1, 7);
        x.item(0, 1, 9);
        x.item(0, 6, -100);
        x.tape(1, 2, 2);
        x.item(1, 1, 1 << 20);
        x.tape(2, 1, 0);
        x.tape(4, 4, 3);
        x.item(4, 0, 1);
        x.set(0, 6);
        x.set(1, 3);
        x.run(3);
        x.image();
        x.act(6, 2, 5);
        x.clear();
        Due.feed(x, "jump .");
        return x;
    }

    private static RingWars atWar() {
        RingWars x = atPeace();
        x.set(1, 1);
        x.set(0, 5);
        x.run(5);
        return x;
    }

    private static RingWars whenOver() {
        RingWars x = atPeace();
        x.set(2, 1);
        x.set(0, 5);
        x.run(1);
        return x;
    }

    private static RingWars atTheLimit() {
        RingWars x = atPeace();
        x.physics(1, 4);
        x.set(1, 1);
        x.set(0, 5);
        x.run(4);
        return x;
    }

    private static RingWars withOneSide() {
        RingWars x = atPeace();
        x.set(1, 7);
        return x;
    }

    /** Eight fighters, four sides that did no turn, and a text of 150 bytes. */
    private static RingWars whenFull() {
        RingWars x = atPeace();
        Due.feed(x, "1");
        x.fighter();
        for (int f = 4; f < 8; f++) {
            Due.fighter(x, "jump ." + f);
        }
        for (int side = 0; side < 4; side++) {
            x.set(side * 2, side * 2);
        }
        Due.feed(x, "x".repeat(150));
        return x;
    }

    private static RingWars inOtherCells() {
        RingWars x = atPeace();
        x.physics(0, 9);
        return x;
    }

    private static RingWars withoutAnImage() {
        RingWars x = Due.with("jump .0", "die");
        x.physics(0, 8);
        x.set(0, 0);
        x.set(0, 4);
        x.run(3);
        return x;
    }

    // ---- the look

    private static String look(RingWars x) {
        StringBuilder all = new StringBuilder();
        for (int what = 0; what < 8; what++) {
            all.append(x.count(what)).append(' ');
        }
        fighters(x, all);
        all.append(Due.war(x)).append("; trace ").append(Due.trace(x));
        for (int tape = 0; tape < 6; tape++) {
            all.append("; tape ");
            for (int i = 0; x.read(tape, i) != RingWars.NO; i++) {
                all.append(x.read(tape, i)).append(' ');
            }
            for (int other = tape; other < 6; other++) {
                all.append(x.shift(tape, 0, other, 0, 0)).append(' ');
            }
        }
        // what can only be seen by use: the image, and the text by what it becomes
        all.append("; back ").append(x.back()).append(' ').append(Due.war(x));
        all.append("; text ").append(x.feed('5', 1)).append(' ').append(x.fighter());
        int last = x.count(4) - 1;
        return all.append(last < 0 ? "" : Due.order(x, last, 0)).toString();
    }

    private static void fighters(RingWars x, StringBuilder all) {
        int many = x.count(4);
        for (int f = 0; f < many; f++) {
            long length = x.of(f, -1, 0);
            all.append("; fighter ").append(length);
            for (int i = 0; i < length; i++) {
                all.append(", ").append(Due.order(x, f, i));
            }
        }
    }

    /** A call in a state is answered so, and changes nothing. */
    private static void refused(Supplier<RingWars> state, long want, String call, ToLongFunction<RingWars> asked) {
        RingWars x = state.get();
        due.is(call, asked.applyAsLong(x), want);
        due.is(call + ": what is changed", look(x), look(state.get()));
        RingWars again = state.get();
        asked.applyAsLong(again);
        due.is(call + " again", asked.applyAsLong(again), want);
    }

    /** Calls that do change something are seen in the look: else it would prove nothing. */
    private static void theLookSeesAll() {
        due.by("What is answered so changes nothing.");
        seen("physics", x -> x.physics(1, 61));
        seen("feed", x -> x.feed('1', 1));
        seen("fighter with a fault", x -> x.fighter());
        seen("load", x -> x.load(0, 1, 1) + x.item(0, 1, 0) + x.load(0, 0, 1));
        seen("set", x -> x.set(1, 0));
        seen("image", x -> x.image());
        seen("back", x -> x.back());
        seen("act", x -> x.act(0, 0, 0));
        seen("tape of another sort", x -> x.tape(2, 2, 0));
        seen("tape of nothing", x -> x.tape(2, -1, 0));
        seen("tape anew", x -> x.tape(1, 2, 2));
        seen("item", x -> x.item(1, 0, 1));
        seen("shift", x -> x.shift(0, 1, 0, 2, 1));
        RingWars x = atWar();
        x.clear();
        due.is("clear() is seen", look(x).equals(look(atWar())) ? 1 : 0, 0);
        x = atWar();
        x.run(1);
        due.is("run(1) is seen", look(x).equals(look(atWar())) ? 1 : 0, 0);
        due.is("nothing is seen where nothing was done", look(atWar()), look(atWar()));
    }

    private static void seen(String call, ToLongFunction<RingWars> change) {
        RingWars x = atPeace();
        change.applyAsLong(x);
        due.is(call + " is seen", look(x).equals(look(atPeace())) ? 1 : 0, 0);
    }

    // ---- physics, fighters

    private static void physics() {
        due.by("NONE: what; BAD; STATE: THE WAR that is set has SIDES.");
        int[] whats = {-1, 4, MIN, MAX};
        int[][] numbers = {{7, 33}, {0, 151}, {0, 9}, {0, 33}};
        for (int k = 0; k < 4; k++) {
            int what = k;
            int none = whats[k];
            int below = numbers[k][0];
            int above = numbers[k][1];
            refused(RefusalsTest::atPeace, NONE, "physics(" + none + ", 8)", x -> x.physics(none, 8));
            refused(RefusalsTest::atWar, NONE, "physics(" + none + ", 0) at war", x -> x.physics(none, 0));
            refused(RefusalsTest::atPeace, BAD, "physics(" + what + ", " + below + ")", x -> x.physics(what, below));
            refused(RefusalsTest::atPeace, BAD, "physics(" + what + ", " + above + ")", x -> x.physics(what, above));
            refused(RefusalsTest::atWar, BAD, "physics(" + what + ", MIN) at war", x -> x.physics(what, MIN));
            refused(RefusalsTest::atWar, BAD, "physics(" + what + ", MAX) at war", x -> x.physics(what, MAX));
            refused(RefusalsTest::atWar, STATE, "physics(" + what + ", 8) at war", x -> x.physics(what, 8));
            refused(RefusalsTest::whenFull, STATE, "physics(" + what + ", 8) when set", x -> x.physics(what, 8));
            refused(RefusalsTest::withOneSide, STATE, "physics(" + what + ", 8) with one side", x -> x.physics(what, 8));
            refused(RefusalsTest::whenOver, STATE, "physics(" + what + ", 8) when over", x -> x.physics(what, 8));
        }
    }

    private static void feed() {
        due.by("come behind THE TEXT's: how many it has. BAD; FULL.");
        int[] wrong = {-1, 5, MIN, MAX};
        for (int n : wrong) {
            refused(RefusalsTest::atPeace, BAD, "feed(53, " + n + ")", x -> x.feed(53, n));
            refused(RefusalsTest::whenFull, BAD, "feed(53, " + n + ") when full", x -> x.feed(53, n));
        }
        for (int k = 1; k <= 4; k++) {
            int n = k;
            refused(RefusalsTest::whenFull, FULL, "feed(53, " + n + ") when full", x -> x.feed(53, n));
        }
    }

    private static void fighter() {
        due.by("FULL (THE TEXT stays)");
        refused(RefusalsTest::whenFull, FULL, "fighter() when full", x -> x.fighter());
    }

    private static void load() {
        due.by("NONE: tape; BAD: n; FULL; NOTHING; CAST: no row of shorts; PLACE; BAD: an ORDER that is none.");
        int[] tapes = {-1, 6, MIN, MAX};
        int[] numbers = {0, 9, MIN, MAX};
        for (int k = 0; k < 4; k++) {
            int tape = tapes[k];
            int n = numbers[k];
            refused(RefusalsTest::atPeace, NONE, "load(" + tape + ", -1, 0)", x -> x.load(tape, -1, 0));
            refused(RefusalsTest::whenFull, NONE, "load(" + tape + ", 0, 1) when full", x -> x.load(tape, 0, 1));
            refused(RefusalsTest::atPeace, BAD, "load(3, -1, " + n + ")", x -> x.load(3, -1, n));
            refused(RefusalsTest::whenFull, BAD, "load(3, -1, " + n + ") when full", x -> x.load(3, -1, n));
        }
        refused(RefusalsTest::whenFull, FULL, "load(3, -1, 1) when full", x -> x.load(3, -1, 1));
        refused(RefusalsTest::whenFull, FULL, "load(1, -1, 1) when full", x -> x.load(1, -1, 1));
        refused(RefusalsTest::whenFull, FULL, "load(0, -1, 1) when full", x -> x.load(0, -1, 1));
        refused(RefusalsTest::whenFull, FULL, "load(0, 0, 1) when full", x -> x.load(0, 0, 1));
        refused(RefusalsTest::atPeace, NOTHING, "load(3, -1, 1)", x -> x.load(3, -1, 1));
        refused(RefusalsTest::atPeace, CAST, "load(1, -1, 1)", x -> x.load(1, -1, 1));
        refused(RefusalsTest::atPeace, CAST, "load(4, 0, 8)", x -> x.load(4, 0, 8));
        int[] places = {-1, 3, MIN, MAX};
        for (int i : places) {
            refused(RefusalsTest::atPeace, PLACE, "load(0, " + i + ", 1)", x -> x.load(0, i, 1));
            refused(RefusalsTest::atPeace, PLACE, "load(2, " + i + ", 1)", x -> x.load(2, i, 1));
        }
        refused(RefusalsTest::atPeace, PLACE, "load(0, 0, 2)", x -> x.load(0, 0, 2));
        refused(RefusalsTest::atPeace, BAD, "load(0, 0, 1)", x -> x.load(0, 0, 1));
        refused(RefusalsTest::atPeace, BAD, "load(0, 2, 1)", x -> x.load(0, 2, 1));
    }

    private static void of() {
        due.by("NO: fighter, i, what.");
        int[] wrong = {-2, 5, MIN, MAX};
        for (int n : wrong) {
            refused(RefusalsTest::atPeace, RingWars.NO, "of(" + n + ", 0, 0)", x -> x.of(n, 0, 0));
            refused(RefusalsTest::atPeace, RingWars.NO, "of(" + n + ", -1, 0)", x -> x.of(n, -1, 0));
            refused(RefusalsTest::atPeace, RingWars.NO, "of(0, " + n + ", 0)", x -> x.of(0, n, 0));
            refused(RefusalsTest::atPeace, RingWars.NO, "of(0, 0, " + n + ")", x -> x.of(0, 0, n));
        }
        refused(RefusalsTest::atPeace, RingWars.NO, "of(3, 0, 0)", x -> x.of(3, 0, 0));
        refused(RefusalsTest::atPeace, RingWars.NO, "of(0, 3, 0)", x -> x.of(0, 3, 0));
        refused(RefusalsTest::atPeace, RingWars.NO, "of(0, 0, -1)", x -> x.of(0, 0, -1));
    }

    // ---- the war

    private static void set() {
        due.by("NONE: fighter, cell; STATE: turns were done; FULL.");
        int[] wrong = {-1, 8, MIN, MAX};
        for (int n : wrong) {
            refused(RefusalsTest::atPeace, NONE, "set(" + n + ", 0)", x -> x.set(n, 0));
            refused(RefusalsTest::atPeace, NONE, "set(0, " + n + ")", x -> x.set(0, n));
            refused(RefusalsTest::atWar, NONE, "set(" + n + ", 0) at war", x -> x.set(n, 0));
            refused(RefusalsTest::atWar, NONE, "set(0, " + n + ") at war", x -> x.set(0, n));
            refused(RefusalsTest::whenFull, NONE, "set(" + n + ", 0) when full", x -> x.set(n, 0));
            refused(RefusalsTest::whenFull, NONE, "set(0, " + n + ") when full", x -> x.set(0, n));
        }
        refused(RefusalsTest::atPeace, NONE, "set(3, 0)", x -> x.set(3, 0));
        refused(RefusalsTest::atWar, STATE, "set(0, 7) at war", x -> x.set(0, 7));
        refused(RefusalsTest::whenOver, STATE, "set(0, 7) when over", x -> x.set(0, 7));
        refused(RefusalsTest::whenFull, FULL, "set(0, 7) when full", x -> x.set(0, 7));
        refused(() -> {
            RingWars x = whenFull();
            x.run(1);
            return x;
        }, STATE, "set(0, 7) when full and behind a turn", x -> x.set(0, 7));
    }

    private static void run() {
        due.by("how many were done. BAD; STATE: there are no SIDES, or it is OVER.");
        int[] wrong = {0, -1, 151, MIN, MAX};
        for (int n : wrong) {
            refused(RefusalsTest::atPeace, BAD, "run(" + n + ")", x -> x.run(n));
            refused(RefusalsTest::atWar, BAD, "run(" + n + ") at war", x -> x.run(n));
            refused(RefusalsTest::whenOver, BAD, "run(" + n + ") when over", x -> x.run(n));
        }
        for (int n = 1; n <= 150; n += 149) {
            int turns = n;
            refused(RefusalsTest::atPeace, STATE, "run(" + n + ") at peace", x -> x.run(turns));
            refused(RefusalsTest::whenOver, STATE, "run(" + n + ") when over", x -> x.run(turns));
            refused(RefusalsTest::atTheLimit, STATE, "run(" + n + ") at the limit", x -> x.run(turns));
        }
    }

    private static void cellThreadDiedState() {
        due.by("NONE (-1) no such number");
        int[] wrong = {-2, 8, MIN, MAX};
        for (int n : wrong) {
            refused(RefusalsTest::atWar, NONE, "cell(" + n + ", 0)", x -> x.cell(n, 0));
            refused(RefusalsTest::atWar, NONE, "cell(0, " + n + ")", x -> x.cell(0, n));
            refused(RefusalsTest::atWar, NONE, "thread(" + n + ", -1)", x -> x.thread(n, -1));
            refused(RefusalsTest::atWar, NONE, "thread(0, " + n + ")", x -> x.thread(0, n));
            refused(RefusalsTest::atWar, NONE, "died(" + n + ", 0)", x -> x.died(n, 0));
            refused(RefusalsTest::atWar, NONE, "died(0, " + n + ")", x -> x.died(0, n));
            refused(RefusalsTest::atWar, NONE, "state(" + n + ")", x -> x.state(n));
        }
        refused(RefusalsTest::atWar, NONE, "cell(0, 7)", x -> x.cell(0, 7));
        refused(RefusalsTest::atWar, NONE, "cell(-1, 0)", x -> x.cell(-1, 0));
        refused(RefusalsTest::atWar, NONE, "thread(2, -1)", x -> x.thread(2, -1));
        refused(RefusalsTest::atWar, NONE, "thread(0, 2)", x -> x.thread(0, 2));
        refused(RefusalsTest::atPeace, NONE, "thread(0, -1) at peace", x -> x.thread(0, -1));
        refused(RefusalsTest::atPeace, NONE, "died(0, 0) at peace", x -> x.died(0, 0));
        refused(RefusalsTest::atWar, NONE, "died(2, 0)", x -> x.died(2, 0));
        refused(RefusalsTest::atWar, NONE, "died(0, 2)", x -> x.died(0, 2));
        refused(RefusalsTest::atWar, NONE, "state(4)", x -> x.state(4));
    }

    // ---- duels, tables

    private static void duelAllKeyTune() {
        due.by("NONE: fighters, what; BAD: d (0 .. CELLS - 1).");
        int[] wrong = {-1, 3, MIN, MAX};
        for (int n : wrong) {
            refused(RefusalsTest::atWar, NONE, "duel(" + n + ", 0, 8, 0)", x -> x.duel(n, 0, 8, 0));
            refused(RefusalsTest::atWar, NONE, "duel(0, " + n + ", 8, 0)", x -> x.duel(0, n, 8, 0));
            refused(RefusalsTest::atWar, NONE, "duel(0, 0, 8, " + n + ")", x -> x.duel(0, 0, 8, n));
            refused(RefusalsTest::atWar, NONE, "all(" + n + ", 0, 0)", x -> x.all(n, 0, 0));
            refused(RefusalsTest::atWar, NONE, "all(0, " + n + ", 0)", x -> x.all(0, n, 0));
            refused(RefusalsTest::atWar, NONE, "all(0, 0, " + n + ")", x -> x.all(0, 0, n));
            refused(RefusalsTest::atWar, NONE, "key(" + n + ", 0)", x -> x.key(n, 0));
            refused(RefusalsTest::atWar, NONE, "key(0, " + n + ")", x -> x.key(0, n));
            refused(RefusalsTest::atWar, NONE, "tune(" + n + ", 0, 0, 0)", x -> x.tune(n, 0, 0, 0));
            refused(RefusalsTest::atWar, NONE, "tune(0, 0, 0, " + n + ")", x -> x.tune(0, 0, 0, n));
            refused(RefusalsTest::atWar, NONE, "tune(0, " + n + ", 0, 0)", x -> x.tune(0, n, 0, 0));
            refused(RefusalsTest::atWar, NONE, "tune(0, 0, " + n + ", 0)", x -> x.tune(0, 0, n, 0));
        }
        int[] distances = {-1, 8, MIN, MAX};
        for (int d : distances) {
            refused(RefusalsTest::atWar, BAD, "duel(0, 1, " + d + ", 0)", x -> x.duel(0, 1, d, 0));
            refused(RefusalsTest::atWar, BAD, "duel(0, 1, " + d + ", 1)", x -> x.duel(0, 1, d, 1));
        }
        refused(RefusalsTest::atWar, NONE, "duel(0, 1, 0, 2)", x -> x.duel(0, 1, 0, 2));
        refused(RefusalsTest::atWar, NONE, "tune(0, 0, 2, 0)", x -> x.tune(0, 0, 2, 0));
        refused(RefusalsTest::atWar, NONE, "tune(1, 1, 0, 0)", x -> x.tune(1, 1, 0, 0));
    }

    private static void worthLadderRingUnlike() {
        due.by("RING OF THREE: its i-th (0 .. 2); -5: there is none. NONE: i.");
        int[] wrong = {-1, 3, MIN, MAX};
        for (int n : wrong) {
            refused(RefusalsTest::atWar, NONE, "worth(" + n + ")", x -> x.worth(n));
            refused(RefusalsTest::atWar, NONE, "ladder(" + n + ")", x -> x.ladder(n));
            refused(RefusalsTest::atWar, NONE, "ring(" + n + ")", x -> x.ring(n));
            refused(RefusalsTest::atWar, NONE, "unlike(" + n + ", 0)", x -> x.unlike(n, 0));
            refused(RefusalsTest::atWar, NONE, "unlike(0, " + n + ")", x -> x.unlike(0, n));
            refused(RingWars::new, NONE, "ring(" + n + ") of none", x -> x.ring(n));
        }
        refused(RingWars::new, NONE, "worth(0) of none", x -> x.worth(0));
        refused(RingWars::new, NONE, "ladder(0) of none", x -> x.ladder(0));
        refused(RingWars::new, -5, "ring(0) of none", x -> x.ring(0));
        refused(RingWars::new, NONE, "unlike(0, 0) of none", x -> x.unlike(0, 0));
    }

    private static void gardenSturdyRoundSame() {
        due.by("NONE: what; BAD: set.");
        int[] wrong = {-1, 3, MIN, MAX};
        int[] sets = {0, 1, 4, 8, 9, 15, -1, MIN, MAX, MIN | 3};
        for (int n : wrong) {
            refused(RefusalsTest::atWar, NONE, "garden(0, " + n + ")", x -> x.garden(0, n));
            refused(RefusalsTest::atWar, NONE, "sturdy(" + n + ")", x -> x.sturdy(n));
            refused(RefusalsTest::atWar, NONE, "round(" + n + ")", x -> x.round(n));
            refused(RefusalsTest::atWar, NONE, "same(" + n + ", 0)", x -> x.same(n, 0));
            refused(RefusalsTest::atWar, NONE, "same(0, " + n + ")", x -> x.same(0, n));
        }
        for (int set : sets) {
            refused(RefusalsTest::atWar, BAD, "garden(" + set + ", 0)", x -> x.garden(set, 0));
            refused(RefusalsTest::atWar, BAD, "garden(" + set + ", 1)", x -> x.garden(set, 1));
            refused(RefusalsTest::atWar, NONE, "garden(" + set + ", 2)", x -> x.garden(set, 2));
        }
        refused(RefusalsTest::whenFull, BAD, "garden(31, 0) of eight", x -> x.garden(31, 0));
        refused(RefusalsTest::whenFull, BAD, "garden(257, 0) of eight", x -> x.garden(257, 0));
    }

    // ---- the image, acts, tapes

    private static void back() {
        due.by("STATE: there is none, or CELLS are not as many as then.");
        refused(RefusalsTest::withoutAnImage, STATE, "back() without an image", x -> x.back());
        refused(RingWars::new, STATE, "back() of a new object", x -> x.back());
        refused(RefusalsTest::inOtherCells, STATE, "back() in other cells", x -> x.back());
        refused(() -> {
            RingWars x = inOtherCells();
            x.set(0, 8);
            x.run(2);
            return x;
        }, STATE, "back() in a war in other cells", x -> x.back());
    }

    private static void traceTakenCount() {
        due.by("BAD: k; NOTHING: no such CELL; CAST.");
        int[] wrong = {-1, 8, MIN, MAX};
        for (int n : wrong) {
            refused(RefusalsTest::atWar, NONE, "trace(" + n + ")", x -> x.trace(n));
            refused(RefusalsTest::atWar, BAD, "taken(0, " + n + ")", x -> x.taken(0, n));
            refused(RefusalsTest::atWar, BAD, "taken(8, " + n + ")", x -> x.taken(8, n));
            refused(RefusalsTest::atWar, NOTHING, "taken(" + n + ", 6)", x -> x.taken(n, 6));
            refused(RefusalsTest::atWar, BAD, "count(" + n + ")", x -> x.count(n));
        }
        refused(RefusalsTest::atWar, BAD, "taken(0, 7)", x -> x.taken(0, 7));
        refused(RefusalsTest::atWar, CAST, "taken(5, 1)", x -> x.taken(5, 1));
        refused(RefusalsTest::atPeace, CAST, "taken(1, 1) of an empty one", x -> x.taken(1, 1));
        refused(RingWars::new, NONE, "trace(0) of a new object", x -> x.trace(0));
    }

    private static void tape() {
        due.by("NONE: tape; BAD: sort, n above 60; SIZE.");
        int[] tapes = {-1, 6, MIN, MAX};
        int[] sorts = {-2, 5, MIN, MAX};
        int[] above = {61, 1000, MAX - 1, MAX};
        int[] below = {-1, -60, MIN + 1, MIN};
        for (int k = 0; k < 4; k++) {
            int tape = tapes[k];
            int sort = sorts[k];
            int large = above[k];
            int small = below[k];
            refused(RefusalsTest::atPeace, NONE, "tape(" + tape + ", -1, 0)", x -> x.tape(tape, -1, 0));
            refused(RefusalsTest::atPeace, NONE, "tape(" + tape + ", 5, -1)", x -> x.tape(tape, 5, -1));
            refused(RefusalsTest::atPeace, BAD, "tape(0, " + sort + ", 1)", x -> x.tape(0, sort, 1));
            refused(RefusalsTest::atPeace, BAD, "tape(0, " + sort + ", -1)", x -> x.tape(0, sort, -1));
            refused(RefusalsTest::atPeace, BAD, "tape(0, 1, " + large + ")", x -> x.tape(0, 1, large));
            refused(RefusalsTest::atPeace, BAD, "tape(3, 1, " + large + ")", x -> x.tape(3, 1, large));
            refused(RefusalsTest::atPeace, SIZE, "tape(0, 2, " + small + ")", x -> x.tape(0, 2, small));
            refused(RefusalsTest::atPeace, SIZE, "tape(3, 0, " + small + ")", x -> x.tape(3, 0, small));
        }
    }

    private static void item() {
        due.by("NONE; NOTHING; PLACE.");
        int[] wrong = {-1, 7, MIN, MAX};
        for (int n : wrong) {
            refused(RefusalsTest::atPeace, NONE, "item(" + n + ", 0, 1)", x -> x.item(n, 0, 1));
            refused(RefusalsTest::atPeace, NONE, "item(" + n + ", -1, 1)", x -> x.item(n, -1, 1));
            refused(RefusalsTest::atPeace, NOTHING, "item(3, " + n + ", 1)", x -> x.item(3, n, 1));
            refused(RefusalsTest::atPeace, PLACE, "item(0, " + n + ", 1)", x -> x.item(0, n, 1));
            refused(RefusalsTest::atPeace, PLACE, "item(2, " + n + ", 1)", x -> x.item(2, n, 1));
        }
        refused(RefusalsTest::atPeace, NONE, "item(6, 0, 1)", x -> x.item(6, 0, 1));
        refused(RefusalsTest::atPeace, NOTHING, "item(3, 0, 1)", x -> x.item(3, 0, 1));
        refused(RefusalsTest::atPeace, PLACE, "item(2, 0, 1)", x -> x.item(2, 0, 1));
    }

    private static void read() {
        due.by("NO: no such TAPE, nothing there, no such place.");
        int[] wrong = {-1, 7, MIN, MAX};
        for (int n : wrong) {
            refused(RefusalsTest::atPeace, RingWars.NO, "read(" + n + ", 0)", x -> x.read(n, 0));
            refused(RefusalsTest::atPeace, RingWars.NO, "read(0, " + n + ")", x -> x.read(0, n));
            refused(RefusalsTest::atPeace, RingWars.NO, "read(3, " + n + ")", x -> x.read(3, n));
        }
        refused(RefusalsTest::atPeace, RingWars.NO, "read(6, 0)", x -> x.read(6, 0));
        refused(RefusalsTest::atPeace, RingWars.NO, "read(3, 0)", x -> x.read(3, 0));
        refused(RefusalsTest::atPeace, RingWars.NO, "read(2, 0)", x -> x.read(2, 0));
    }

    private static void shift() {
        due.by("NONE: tapes; NOTHING; CAST: of unlike sorts; PLACE: n, i or j is below 0, or beyond either's end.");
        int[] wrong = {-1, 8, MIN, MAX};
        for (int n : wrong) {
            refused(RefusalsTest::atPeace, NONE, "shift(" + n + ", 0, 0, 0, 1)", x -> x.shift(n, 0, 0, 0, 1));
            refused(RefusalsTest::atPeace, NONE, "shift(3, 0, " + n + ", 0, 1)", x -> x.shift(3, 0, n, 0, 1));
            refused(RefusalsTest::atPeace, NOTHING, "shift(3, 0, 0, 0, " + n + ")", x -> x.shift(3, 0, 0, 0, n));
            refused(RefusalsTest::atPeace, NOTHING, "shift(0, " + n + ", 3, 0, 1)", x -> x.shift(0, n, 3, 0, 1));
            refused(RefusalsTest::atPeace, CAST, "shift(0, " + n + ", 1, 0, 1)", x -> x.shift(0, n, 1, 0, 1));
            refused(RefusalsTest::atPeace, CAST, "shift(4, 0, 0, " + n + ", 1)", x -> x.shift(4, 0, 0, n, 1));
            refused(RefusalsTest::atPeace, PLACE, "shift(0, 0, 0, 1, " + n + ")", x -> x.shift(0, 0, 0, 1, n));
            refused(RefusalsTest::atPeace, PLACE, "shift(0, " + n + ", 0, 0, 1)", x -> x.shift(0, n, 0, 0, 1));
            refused(RefusalsTest::atPeace, PLACE, "shift(0, 1, 0, " + n + ", 1)", x -> x.shift(0, 1, 0, n, 1));
            refused(RefusalsTest::atPeace, PLACE, "shift(0, 0, 2, " + n + ", 0)", x -> x.shift(0, 0, 2, n, 0));
        }
        refused(RefusalsTest::atPeace, PLACE, "shift(0, 1, 0, 0, 7)", x -> x.shift(0, 1, 0, 0, 7));
        refused(RefusalsTest::atPeace, PLACE, "shift(0, 0, 0, 1, 7)", x -> x.shift(0, 0, 0, 1, 7));
        refused(RefusalsTest::atPeace, PLACE, "shift(0, 0, 2, 0, 1)", x -> x.shift(0, 0, 2, 0, 1));
        refused(RefusalsTest::atPeace, PLACE, "shift(2, 0, 0, 0, 1)", x -> x.shift(2, 0, 0, 0, 1));
    }
}
