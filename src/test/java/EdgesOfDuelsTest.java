/** The document's chapter 4, and promises 14 to 25: each sentence that names an edge, with a test of its own. */
public final class EdgesOfDuelsTest {
    private static final int NOBODY = -5;
    private static final int[] SIZES = {8, 9, 15, 16, 31, 32};
    private static final int[] NO_FIGHTERS = {-1, 3, 8, Integer.MIN_VALUE, Integer.MAX_VALUE};
    /** Some of all sorts, of lengths 1 to 8. */
    private static final String[] POOL = {"copy .0 .1", "split >0", "add #4 .3;copy .2 @2;jump .-2;die",
        "add >4 >3;skip .3 .4", "ifz .0 .3", "a:copy >b <c;b:jump .a;c:die;die", "jump .1;jump .-1",
        "split .3;add #1 .5;jump .-1;copy .-2 .6;jump .-1", "add <1 >2;add >3 <2;skip #1 @1;split .-3;jump .-4;ifz .1 #0;"
        + "copy .0 .3;add .0 .-5"};
    /** Against itself an empty cell comes to 8 ahead of g's first turn: it beats itself and all that stand still. */
    private static final String BEATS_ITSELF = "copy .5 .8;jump .0";
    private static final Due due = new Due();

    public static void main(String[] args) {
        duelsAtAllDistances();
        duelsThatOverlap();
        duelsAtTheLimit();
        duelsOfNoSuchNumber();
        allOverNoDistances();
        allIsTheSumOfDuels();
        allOfNoSuchNumber();
        beatsAboveZero();
        leftOut();
        keys();
        keysOfNoSuchNumber();
        tunesFromZeroToTheLast();
        tunesOfSeveral();
        tunesAgainstItself();
        tunesOfNoSuchNumber();
        worthOfOneAndOfEight();
        worthOfNoSuchNumber();
        ladderOfLikeOnes();
        ladderOfNoSuchNumber();
        ringsOfFewerThanThree();
        ringsAsARow();
        ringsThatAreNone();
        unlikeItself();
        unlikeOfNoSuchNumber();
        gardensOfTwoToFour();
        gardensCut();
        gardensOfNoSuchSet();
        sturdyByNumbers();
        sturdyAtTheLimit();
        sturdyOfNoSuchNumber();
        roundsByStates();
        roundsWithinTheLimit();
        roundsOfTheDead();
        roundsOfNoSuchNumber();
        sameWithinTheLimit();
        sameByEveryCell();
        sameBeyondReach();
        sameByTheLastWrite();
        sameOfTheDead();
        sameOfNoSuchNumber();
        theWarStays();
        due.end();
    }

    private static RingWars ring(int cells, int limit, String... texts) {
        RingWars x = Due.with(texts);
        x.physics(0, cells);
        x.physics(1, limit);
        return x;
    }

    /** The duel as a war that is set: what 0, 1 as with duel(). */
    private static int war(int cells, int limit, String f, String g, int d, int what) {
        RingWars x = ring(cells, limit, f, g);
        x.set(0, 0);
        x.set(1, d);
        int turns = x.run(150);
        boolean first = x.thread(0, -1) == 0;
        boolean second = x.thread(1, -1) == 0;
        return what == 1 ? turns : first == second ? 1 : second ? 2 : 0;
    }

    private static void duelsAtAllDistances() {
        due.by("A DUEL of FIGHTERS f and g at a distance d: f set down at 0, then g at d");
        int[] sizes = {8, 13, 32};
        for (int cells : sizes) {
            for (int f = 0; f < POOL.length; f++) {
                String g = POOL[(f * 2 + 1) % POOL.length];
                RingWars x = ring(cells, 60, POOL[f], g);
                for (int d = 0; d < cells; d++) {
                    String call = POOL[f] + " against " + g + " at " + d + " in " + cells;
                    due.is(call, x.duel(0, 1, d, 0), war(cells, 60, POOL[f], g, d, 0));
                    due.is(call + ": turns", x.duel(0, 1, d, 1), war(cells, 60, POOL[f], g, d, 1));
                }
            }
        }
    }

    private static void duelsThatOverlap() {
        due.by("(g's ORDERS stand where both overlap)");
        RingWars x = ring(8, 100, "jump .0;jump .0;jump .0;jump .0;jump .0;jump .0;jump .0;jump .0", "die;die",
            "jump .0");
        due.is("g at 0: f steps on g's die", x.duel(0, 1, 0, 0), 0);
        due.is("in its first turn", x.duel(0, 1, 0, 1), 1);
        due.is("g at the last cell takes cell 0, too", x.duel(0, 1, 7, 0), 0);
        for (int d = 1; d < 7; d++) {
            due.is("g at " + d + " dies on its own", x.duel(0, 1, d, 0), 2);
        }
        for (int d = 0; d < 8; d++) {
            due.is("g's order stands at " + d, x.duel(1, 2, d, 0), d == 0 ? 1 : 0);
        }
    }

    private static void duelsAtTheLimit() {
        due.by("run till it is OVER: 1 if g alone is dead, -1 if f alone, else 0");
        RingWars x = Due.with("jump .0", "jump .1;jump .1;die", "die");
        int[] limits = {1, 5, 6, 7, 150};
        for (int limit : limits) {
            x.physics(1, limit);
            due.is("g dies in turn 6, LIMIT " + limit, x.duel(0, 1, 8, 0), limit >= 6 ? 2 : 1);
            due.is("turns, LIMIT " + limit, x.duel(0, 1, 8, 1), Math.min(limit, 6));
            due.is("f dies in turn 5, LIMIT " + limit, x.duel(1, 0, 8, 0), limit >= 5 ? 0 : 1);
            due.is("f dies in turn 1, LIMIT " + limit, x.duel(2, 0, 8, 0), 0);
            due.is("none dies, LIMIT " + limit, x.duel(0, 0, 8, 0), 1);
            due.is("none dies: turns", x.duel(0, 0, 8, 1), limit);
        }
    }

    private static void duelsOfNoSuchNumber() {
        due.by("A DUEL: what 0: 2 if g alone is dead, 0 if f alone, else 1; what 1: how many turns it took. NONE: fighters, what; "
            + "BAD: d (0 .. CELLS - 1).");
        for (int cells : SIZES) {
            RingWars x = ring(cells, 100, "jump .0", "jump .0", "die");
            due.is("d 0", x.duel(0, 1, 0, 0), 1);
            due.is("the last d", x.duel(0, 1, cells - 1, 0), 1);
            int[] wrong = {-1, cells, Integer.MIN_VALUE, Integer.MAX_VALUE};
            for (int d : wrong) {
                due.is("d " + d + " of " + cells, x.duel(0, 1, d, 0), RingWars.BAD);
                due.is("d " + d + " and what", x.duel(0, 1, d, 2), RingWars.NONE);
                due.is("d " + d + " and what below", x.duel(0, 1, d, -1), RingWars.NONE);
                due.is("d " + d + " and f", x.duel(3, 1, d, 0), RingWars.NONE);
                due.is("d " + d + " and g", x.duel(0, 3, d, 1), RingWars.NONE);
            }
            for (int f : NO_FIGHTERS) {
                due.is("f " + f, x.duel(f, 0, 0, 0), RingWars.NONE);
                due.is("g " + f, x.duel(0, f, 0, 0), RingWars.NONE);
            }
            due.is("what MIN", x.duel(0, 0, 0, Integer.MIN_VALUE), RingWars.NONE);
            due.is("what MAX", x.duel(0, 0, 0, Integer.MAX_VALUE), RingWars.NONE);
        }
    }

    private static void allOverNoDistances() {
        due.by("ALL: over distances d from f's length to CELLS less g's (none: 0): how many are 1, 0, -1.");
        String[] lengths = new String[8];
        for (int n = 1; n <= 8; n++) {
            lengths[n - 1] = "jump .0" + ";die".repeat(n - 1);
        }
        RingWars x = Due.with(lengths);
        int[] sizes = {8, 9, 15, 16};
        for (int cells : sizes) {
            x.physics(0, cells);
            for (int f = 0; f < 8; f += 1 + f % 2) {
                for (int g = 0; g < 8; g++) {
                    int distances = Math.max(0, cells - (f + 1) - (g + 1) + 1);
                    due.is((f + 1) + " and " + (g + 1) + " in " + cells, x.all(f, g, 1), distances);
                }
            }
        }
        RingWars y = ring(15, 100, "die;die;die;die;die;die;die;die", "jump .0;die;die;die;die;die;die;die");
        due.is("8 and 8 in 15: no 1", y.all(1, 0, 0), 0);
        due.is("no 0", y.all(1, 0, 1), 0);
        due.is("no -1", y.all(0, 1, 2), 0);
        due.is("none is beaten", y.key(1, 0), NOBODY);
        due.is("worth nothing", y.worth(1), 0);
        due.is("not unlike", y.unlike(0, 1), 0);
        y.physics(0, 16);
        due.is("8 and 8 in 16: one 1", y.all(1, 0, 0), 1);
        due.is("one -1", y.all(0, 1, 2), 1);
    }

    private static void allIsTheSumOfDuels() {
        due.by("how many are 1, 0, -1");
        for (int f = 0; f < POOL.length; f++) {
            for (int g = 0; g < POOL.length; g += 2) {
                RingWars x = ring(12, 40, POOL[f], POOL[g]);
                int[] sums = new int[3];
                for (long d = x.of(0, -1, 0); d <= 12 - x.of(1, -1, 0); d++) {
                    sums[2 - x.duel(0, 1, (int) d, 0)]++;
                }
                for (int what = 0; what < 3; what++) {
                    due.is("all(.., " + what + ") of " + POOL[f] + " and " + POOL[g], x.all(0, 1, what), sums[what]);
                }
            }
        }
    }

    private static void allOfNoSuchNumber() {
        due.by("ALL: how many are 1 (what 0), 0 (1), -1 (2). NONE.");
        RingWars x = Due.with("jump .0", "die", "jump .0");
        int[] wrong = {-1, 3, Integer.MIN_VALUE, Integer.MAX_VALUE};
        for (int what : wrong) {
            due.is("what " + what, x.all(0, 0, what), RingWars.NONE);
        }
        for (int f : NO_FIGHTERS) {
            due.is("f " + f, x.all(f, 0, 0), RingWars.NONE);
            due.is("g " + f, x.all(0, f, 0), RingWars.NONE);
        }
        due.is("1", x.all(0, 1, 0), 15);
        due.is("0", x.all(0, 2, 1), 15);
        due.is("-1", x.all(1, 2, 2), 15);
    }

    private static void beatsAboveZero() {
        due.by("TABLE: 1 s less -1 s of ALL. BEATS: TABLE above 0.");
        RingWars x = Due.with(BEATS_ITSELF, "jump .0");
        due.is("the least that beats: 1", x.all(0, 1, 0) - x.all(0, 1, 2), 1);
        due.is("it has a key", x.key(0, 1), 0);
        due.is("its counterpart: no more than even", x.all(1, 0, 0) - x.all(1, 0, 2) <= 0 ? 1 : 0, 1);
        due.is("it has none", x.key(1, 0), NOBODY);
        RingWars y = Due.with("jump .0", "jump .1;jump .-1");
        due.is("an even one", y.all(0, 1, 0) - y.all(0, 1, 2), 0);
        due.is("it has none, too", y.key(0, 1), NOBODY);
        // each stands still till it finds the other two cells behind itself: g at 2, f with g at 6
        RingWars z = ring(8, 30, "ifz .0 .-2", "ifz #1 .-2");
        due.is("1 s", z.all(0, 1, 0), 1);
        due.is("-1 s", z.all(0, 1, 2), 1);
        due.is("0 s", z.all(0, 1, 1), 5);
        due.is("even, too", z.key(0, 1), NOBODY);
    }

    private static void leftOut() {
        due.by("LEFT OUT: a FIGHTER one of whose ORDERS is empty.");
        // whoever's first ORDER is empty dies in its first turn: no other can be the first KEY
        String[] texts = {"jump .0", "jump .1;jump .-1", "split .1;jump .0;jump .-1", "copy .0 .1"};
        String[] leftOut = {"die", "die;jump .-1", "die;jump .0;jump .-1", "die"};
        for (int i = 0; i < texts.length; i++) {
            RingWars x = Due.with(texts[i], "die", leftOut[i]);
            due.is("the key of " + texts[i], x.key(0, 1), 0);
            due.is("left out it is beaten everywhere", x.all(2, 1, 2), 16 - x.of(2, -1, 0));
            due.is("the fighter stays", x.of(0, 0, 0) == 0 ? 1 : 0, 0);
        }
    }

    private static void keys() {
        due.by("KEY: the first ORDER of f with which left out f doesn't beat g (-5: none, or f doesn't beat g as it is).");
        RingWars x = Due.with("jump .0;die;die;die;die;die;die;die", "die", "jump .0", BEATS_ITSELF);
        due.is("the first of eight", x.key(0, 1), 0);
        due.is("of one", x.key(2, 1), 0);
        due.is("f is beaten", x.key(1, 0), NOBODY);
        due.is("f is even", x.key(0, 2), NOBODY);
        due.is("f is g, and even", x.key(2, 2), NOBODY);
        due.is("f is g, and is beaten", x.key(1, 1), NOBODY);
        due.is("f is g, and beats", x.key(3, 3), 0);
        x.physics(0, 8);
        due.is("no distance", x.key(0, 1), NOBODY);
        due.is("f stays", Due.order(x, 0, 0), "3 0 0 4 0");
    }

    private static void keysOfNoSuchNumber() {
        due.by("KEY of f against g; -5. NONE.");
        RingWars x = Due.with("jump .0", "die", "jump .0");
        for (int f : NO_FIGHTERS) {
            due.is("f " + f, x.key(f, 0), RingWars.NONE);
            due.is("g " + f, x.key(0, f), RingWars.NONE);
        }
    }

    /** The TABLE of a fighter from items against another one in so many cells. */
    private static int table(int cells, int limit, int[] items, String g) {
        RingWars x = new RingWars();
        x.physics(0, cells);
        x.physics(1, limit);
        Due.loaded(x, items);
        Due.fighter(x, g);
        return x.all(0, 1, 0) - x.all(0, 1, 2);
    }

    private static int[] items(String text) {
        RingWars x = Due.with(text);
        int[] items = new int[(int) x.of(0, -1, 0) * 5];
        for (int k = 0; k < items.length; k++) {
            items[k] = (int) x.of(0, k / 5, k % 5);
        }
        return items;
    }

    private static void tunesFromZeroToTheLast() {
        due.by("TUNE: for an ORDER of f, its NUMBER A or B: 0 .. CELLS - 1, with which TABLE is greatest; of several the least.");
        int[] sizes = {8, 11};
        for (int cells : sizes) {
            for (int f = 0; f < POOL.length; f++) {
                String g = POOL[(f + 4) % POOL.length];
                RingWars x = ring(cells, 30, POOL[f], g);
                int[] items = items(POOL[f]);
                for (int item = 2; item < items.length; item += item % 5 == 2 ? 2 : 3) {
                    int want = bestOf(cells, items, item, g);
                    due.is("item " + item + " of " + POOL[f] + " against " + g + " in " + cells,
                        x.tune(0, item / 5, item % 5 == 2 ? 0 : 1, 1), want);
                }
            }
        }
        for (int cells : SIZES) {
            // it lives where its skip finds the number of its fourth ORDER
            RingWars x = ring(cells, 60, "skip #3 .3;die;jump .0;copy .0 .-1", "jump .0");
            due.is("the last number", x.tune(0, 0, 0, 1), cells - 1);
            x = ring(cells, 60, "skip #3 .3;die;jump .0;copy .0 .0", "jump .0");
            due.is("0", x.tune(0, 0, 0, 1), 0);
        }
    }

    private static int bestOf(int cells, int[] items, int item, String g) {
        int best = -1;
        int most = Integer.MIN_VALUE;
        for (int n = 0; n < cells; n++) {
            int[] other = items.clone();
            other[item] = n;
            int table = table(cells, 30, other, g);
            if (table > most) {
                most = table;
                best = n;
            }
        }
        return best;
    }

    private static void tunesOfSeveral() {
        due.by("of several the least");
        RingWars x = Due.with("jump .0;die", "die");
        due.is("A: the first of all", x.tune(0, 1, 0, 1), 0);
        due.is("B of a jump does nothing", x.tune(0, 0, 1, 1), 0);
        RingWars y = ring(15, 100, "die;die;die;die;die;die;die;jump .0", "die;die;die;die;die;die;die;die");
        due.is("over no distances", y.tune(0, 7, 0, 1), 0);
        // 2 and 3 lead on to the jump that lives, 0 and 1 to a death
        RingWars z = Due.with("jump @1;add .0 .0;die;jump .1;jump .0", "jump .0");
        due.is("not 0", z.tune(0, 1, 1, 1), 2);
        due.is("its number stays", z.of(0, 1, 4), 0);
    }

    private static void tunesAgainstItself() {
        due.by("(With g = f in KEY, TUNE: g is as it is.)");
        // it goes on at 2 and its number: as it is, it dies in its third turn; with 1 in its fourth; with 3 never
        String f = "copy #2 .2;jump @1;die;jump .1;die;jump .0";
        RingWars x = Due.with(f);
        due.is("tune against itself", x.tune(0, 0, 0, 0), 1);
        RingWars y = Due.with(f, f);
        due.is("and against one like it", y.tune(0, 0, 0, 1), 1);
        due.is("key against itself", Due.with(BEATS_ITSELF).key(0, 0), 0);
        due.is("and against one like it", Due.with(BEATS_ITSELF, BEATS_ITSELF).key(0, 1), 0);
    }

    private static void tunesOfNoSuchNumber() {
        due.by("TUNE: for ORDER i of f, NUMBER A (which 0) or B (1), against g: the number. NONE: fighters, i, which.");
        RingWars x = Due.with("jump .0;die", "die", "die;die;die;die;die;die;die;die");
        for (int f : NO_FIGHTERS) {
            due.is("f " + f, x.tune(f, 0, 0, 0), RingWars.NONE);
            due.is("g " + f, x.tune(0, 0, 0, f), RingWars.NONE);
        }
        int[] wrong = {-1, 2, 8, Integer.MIN_VALUE, Integer.MAX_VALUE};
        for (int n : wrong) {
            due.is("i " + n, x.tune(0, n, 0, 0), RingWars.NONE);
            due.is("which " + n, x.tune(0, 0, n, 0), RingWars.NONE);
        }
        due.is("i of the one of one", x.tune(1, 1, 0, 2), RingWars.NONE);
        due.is("the last of eight", x.tune(2, 7, 1, 1), 0);
        due.is("no ninth", x.tune(2, 8, 1, 1), RingWars.NONE);
    }

    private static void worthOfOneAndOfEight() {
        due.by("WORTH of a FIGHTER: 3 for each 1, 1 for each 0 of its ALL against each other one.");
        due.is("alone", Due.with("jump .0").worth(0), 0);
        due.is("alone, though it beats itself", Due.with(BEATS_ITSELF).worth(0), 0);
        RingWars x = Due.with(POOL[0], POOL[1], POOL[2], POOL[3], POOL[4], POOL[5], POOL[6], POOL[7]);
        x.physics(0, 10);
        for (int f = 0; f < 8; f++) {
            int want = 0;
            for (int g = 0; g < 8; g++) {
                want += g == f ? 0 : 3 * x.all(f, g, 0) + x.all(f, g, 1);
            }
            due.is("worth(" + f + ") of eight", x.worth(f), want);
        }
    }

    private static void worthOfNoSuchNumber() {
        due.by("WORTH. NONE.");
        RingWars x = Due.with("jump .0", "die", "jump .0");
        for (int f : NO_FIGHTERS) {
            due.is("worth(" + f + ") of three", x.worth(f), RingWars.NONE);
            due.is("worth(" + f + ") of none", new RingWars().worth(f), RingWars.NONE);
        }
        due.is("the first", x.worth(0), 60);
        due.is("the last", x.worth(2), 60);
    }

    private static void ladderOfLikeOnes() {
        due.by("LADDER: by WORTH, the greatest first, of like ones by numbers.");
        RingWars x = Due.with("die", "die", "die", "die", "die", "die", "die", "die");
        for (int i = 0; i < 8; i++) {
            due.is("all alike: " + i, x.ladder(i), i);
        }
        RingWars y = Due.with("die", "jump .0", "die", "jump .0", "die", "jump .0", "die", "jump .0");
        int[] want = {1, 3, 5, 7, 0, 2, 4, 6};
        for (int i = 0; i < 8; i++) {
            due.is("two sorts: " + i, y.ladder(i), want[i]);
        }
        // all wars are even: the longer ones have fewer of them, by one
        RingWars w = Due.with("jump .0;die;die", "jump .0;die", "jump .0");
        for (int i = 0; i < 3; i++) {
            due.is("one more each: " + i, w.ladder(i), 2 - i);
        }
        RingWars v = Due.with("jump .0", "copy .5 .8;jump .0", "jump .0");
        due.is("the one that beats 0", v.ladder(0), 1);
        RingWars z = Due.with(POOL[7], POOL[6], POOL[5], POOL[4], POOL[3], POOL[2], POOL[1], POOL[0]);
        z.physics(0, 11);
        int seen = 0;
        for (int i = 0; i < 8; i++) {
            seen |= 1 << z.ladder(i);
            if (i > 0) {
                int ahead = z.ladder(i - 1);
                int behind = z.ladder(i);
                boolean well = z.worth(ahead) > z.worth(behind) || z.worth(ahead) == z.worth(behind) && ahead < behind;
                due.is(ahead + " ahead of " + behind, well ? 1 : 0, 1);
            }
        }
        due.is("each once", seen, 255);
    }

    private static void ladderOfNoSuchNumber() {
        due.by("The i-th of THE LADDER. NONE.");
        RingWars x = new RingWars();
        due.is("of no fighters", x.ladder(0), RingWars.NONE);
        for (int many = 1; many <= 8; many++) {
            Due.fighter(x, "die");
            due.is("the first of " + many, x.ladder(0), 0);
            due.is("the last of " + many, x.ladder(many - 1), many - 1);
            due.is("no more than " + many, x.ladder(many), RingWars.NONE);
            due.is("none below", x.ladder(-1), RingWars.NONE);
        }
        due.is("MIN", x.ladder(Integer.MIN_VALUE), RingWars.NONE);
        due.is("MAX", x.ladder(Integer.MAX_VALUE), RingWars.NONE);
    }

    private static void ringsOfFewerThanThree() {
        due.by("RING OF THREE: its i-th (0 .. 2); -5: there is none. NONE: i.");
        RingWars x = new RingWars();
        int[] wrong = {-1, 3, Integer.MIN_VALUE, Integer.MAX_VALUE};
        for (int many = 0; many <= 2; many++) {
            for (int i = 0; i <= 2; i++) {
                due.is("ring(" + i + ") of " + many, x.ring(i), NOBODY);
            }
            for (int i : wrong) {
                due.is("ring(" + i + ")", x.ring(i), RingWars.NONE);
            }
            Due.fighter(x, BEATS_ITSELF);
        }
        for (int i = 0; i <= 2; i++) {
            due.is("three that beat each other: " + i, x.ring(i), i);
        }
        for (int i : wrong) {
            due.is("ring(" + i + ") with one", x.ring(i), RingWars.NONE);
        }
    }

    private static void ringsAsARow() {
        due.by("RING OF THREE: the first f, g, h (as a row, f the least) of which f BEATS g, g h, h f.");
        String[] three = {"split >0", "add >4 >3;skip .3 .4", "ifz .0 .3"};
        int[][] rows = {{0, 1, 2}, {0, 2, 1}, {1, 0, 2}, {1, 2, 0}, {2, 0, 1}, {2, 1, 0}};
        for (int[] row : rows) {
            RingWars x = ring(8, 60, three[row[0]], three[row[1]], three[row[2]], "die", "jump .0");
            int[] want = ringByTables(x, 5);
            for (int i = 0; i < 3; i++) {
                due.is("ring(" + i + ") of " + row[0] + row[1] + row[2], x.ring(i), want[i]);
            }
        }
        RingWars y = ring(8, 60, "die", "die", "die", "die", "die", three[0], three[1], three[2]);
        for (int i = 0; i < 3; i++) {
            due.is("the last three: " + i, y.ring(i), 5 + i);
        }
        RingWars z = ring(8, 60, POOL[1], POOL[3], POOL[4], POOL[0], POOL[1], POOL[3], POOL[4], POOL[6]);
        int[] want = ringByTables(z, 8);
        for (int i = 0; i < 3; i++) {
            due.is("the first of several: " + i, z.ring(i), want[i]);
        }
    }

    private static void ringsThatAreNone() {
        due.by("of which f BEATS g, g h, h f");
        String[][] none = {{"jump .0", "jump .0", "jump .0"}, {"jump .0", "jump .1;jump .-1", "jump .0", "die", "die"},
            {"jump .1;die", "die", "jump .1;jump .1;die", "die", "die", "die", "die", "die"},
            {"die", "jump .1;die", "jump .1;jump .1;die", "jump .0", "jump .1;die", "die", "jump .0", "jump .1;die"}};
        for (String[] texts : none) {
            RingWars x = Due.with(texts);
            for (int i = 0; i < 3; i++) {
                due.is("ring(" + i + ") of " + texts.length, x.ring(i), NOBODY);
            }
        }
    }

    /** The first row of three different ones, f the least, that beat each other round. */
    private static int[] ringByTables(RingWars x, int many) {
        boolean[][] beats = new boolean[many][many];
        for (int f = 0; f < many; f++) {
            for (int g = 0; g < many; g++) {
                beats[f][g] = x.all(f, g, 0) > x.all(f, g, 2);
            }
        }
        for (int f = 0; f < many; f++) {
            for (int g = f + 1; g < many; g++) {
                for (int h = f + 1; h < many; h++) {
                    if (g != h && beats[f][g] && beats[g][h] && beats[h][f]) {
                        return new int[] {f, g, h};
                    }
                }
            }
        }
        return new int[] {NOBODY, NOBODY, NOBODY};
    }

    private static void unlikeItself() {
        due.by("UNLIKE of two: the sum of how far their TABLES against each FIGHTER (also themselves) are apart.");
        RingWars x = Due.with(POOL[0], POOL[1], POOL[2], POOL[3], POOL[4], POOL[5], POOL[6], BEATS_ITSELF);
        x.physics(0, 9);
        for (int g = 0; g < 8; g++) {
            int want = 0;
            for (int k = 0; k < 8; k++) {
                want += Math.abs(x.all(7, k, 0) - x.all(7, k, 2) - x.all(g, k, 0) + x.all(g, k, 2));
            }
            due.is("unlike(7, " + g + ")", x.unlike(7, g), want);
            due.is("unlike(" + g + ", 7)", x.unlike(g, 7), want);
        }
        due.is("unlike itself", x.unlike(7, 7), 0);
        due.is("alone", Due.with("die").unlike(0, 0), 0);
    }

    private static void unlikeOfNoSuchNumber() {
        due.by("UNLIKE. NONE.");
        RingWars x = Due.with("die", "jump .0", "die");
        for (int f : NO_FIGHTERS) {
            due.is("unlike(" + f + ", 0)", x.unlike(f, 0), RingWars.NONE);
            due.is("unlike(0, " + f + ")", x.unlike(0, f), RingWars.NONE);
            due.is("unlike(" + f + ", " + f + ")", x.unlike(f, f), RingWars.NONE);
        }
        due.is("the last two", x.unlike(1, 2), 75);
    }

    private static void gardensOfTwoToFour() {
        due.by("GARDEN of a set (2 .. 4): set down by numbers at CELLS times i by how many, cut: who is alive as it is OVER, and "
            + "behind how many turns.");
        String[] texts = {POOL[8], POOL[1], POOL[2], POOL[3], POOL[4], POOL[5], POOL[6], POOL[7]};
        int[] sizes = {8, 10, 15, 31};
        for (int cells : sizes) {
            RingWars x = ring(cells, 50, texts);
            RingWars y = ring(cells, 50, texts);
            for (int set = 0; set < 256; set++) {
                int many = Integer.bitCount(set);
                if (many < 2 || many > 4) {
                    continue;
                }
                if (set % 16 == 0) {
                    y = ring(cells, 50, texts);
                }
                y.clear();
                for (int f = 0, i = 0; f < 8; f++) {
                    if ((set >> f & 1) != 0) {
                        y.set(f, cells * i / many);
                        i++;
                    }
                }
                int turns = y.run(150);
                int alive = 0;
                for (int f = 0, side = 0; f < 8; f++) {
                    if ((set >> f & 1) != 0) {
                        alive |= y.thread(side, -1) > 0 ? 1 << f : 0;
                        side++;
                    }
                }
                due.is("who is alive of " + set + " in " + cells, x.garden(set, 0), alive);
                due.is("turns of " + set + " in " + cells, x.garden(set, 1), turns);
            }
        }
    }

    private static void gardensCut() {
        due.by("at CELLS times i by how many, cut");
        int[][] cases = {{8, 2, 4}, {9, 2, 4}, {8, 3, 2, 5}, {9, 3, 3, 6}, {32, 3, 10, 21}, {9, 4, 2, 4, 6},
            {11, 4, 2, 5, 8}, {31, 4, 7, 15, 23}, {32, 4, 8, 16, 24}};
        for (int[] told : cases) {
            for (int i = 1; i < told[1]; i++) {
                for (int off = -1; off <= 1; off++) {
                    // the first one's copy of an empty cell is ahead of all other first turns
                    RingWars x = ring(told[0], 40, "copy .-1 ." + (told[i + 1] + off) + ";jump .0", "jump .0", "jump .0",
                        "jump .0");
                    int all = (1 << told[1]) - 1;
                    due.is(told[1] + " in " + told[0] + " cells, by " + off, x.garden(all, 0),
                        off == 0 ? all - (1 << i) : told[i + 1] + off == 1 ? all - 1 : all);
                }
            }
        }
    }

    private static void gardensOfNoSuchSet() {
        due.by("GARDEN: what 0 who is alive (bits of FIGHTERS), 1 turns. NONE: what; BAD: set.");
        RingWars x = Due.with("jump .0", "jump .0", "jump .0", "jump .0", "jump .0", "jump .0");
        int[] wrong = {0, 1, 2, 32, 31, 62, 63, 64, 65, 128 + 1, 256 + 1, 1 << 30 | 1, Integer.MIN_VALUE,
            Integer.MIN_VALUE | 3, -1, Integer.MAX_VALUE};
        for (int set : wrong) {
            due.is("set " + set, x.garden(set, 0), RingWars.BAD);
            due.is("set " + set + " and turns", x.garden(set, 1), RingWars.BAD);
            due.is("set " + set + " and what", x.garden(set, 2), RingWars.NONE);
        }
        int[] well = {3, 33, 48, 7, 56, 15, 60, 39};
        for (int set : well) {
            due.is("set " + set, x.garden(set, 0), set);
            due.is("its turns", x.garden(set, 1), 100);
        }
        int[] whats = {-1, 2, Integer.MIN_VALUE, Integer.MAX_VALUE};
        for (int what : whats) {
            due.is("what " + what, x.garden(3, what), RingWars.NONE);
        }
        due.is("of no fighters", new RingWars().garden(3, 0), RingWars.BAD);
        due.is("of one fighter", Due.with("die").garden(3, 0), RingWars.BAD);
        RingWars y = Due.with("die", "die", "die", "die", "die", "die", "jump .0", "jump .0");
        due.is("the last two of eight", y.garden(192, 0), 192);
        due.is("the last and the first", y.garden(129, 0), 128);
        due.is("a ninth", y.garden(256 + 128, 0), RingWars.BAD);
    }

    /** Whether a fighter from items is alive alone behind LIMIT turns. */
    private static boolean lives(int cells, int limit, int[] items) {
        RingWars x = new RingWars();
        x.physics(0, cells);
        x.physics(1, limit);
        Due.loaded(x, items);
        x.set(0, 0);
        x.run(150);
        return x.thread(0, -1) > 0;
    }

    private static void sturdyByNumbers() {
        due.by("STURDY: alone, at 0: for each of its ORDERS, for A and B, that NUMBER one more: in how many of these it is alive "
            + "behind LIMIT turns.");
        int[] sizes = {8, 9, 16, 32};
        for (int cells : sizes) {
            for (String text : POOL) {
                int want = 0;
                int[] items = items(text);
                for (int item = 2; item < items.length; item += item % 5 == 2 ? 2 : 3) {
                    int[] other = items.clone();
                    other[item]++;
                    want += lives(cells, 70, other) ? 1 : 0;
                }
                due.is("sturdy of " + text + " in " + cells, ring(cells, 70, text).sturdy(0), want);
            }
        }
        due.is("sturdy of eight that jump", Due.with("jump .0" + ";jump .0".repeat(7)).sturdy(0), 16);
        RingWars x = Due.with("jump .99");
        for (int cells = 8; cells <= 32; cells++) {
            x.physics(0, cells);
            // it lives where it jumps to itself: 100 is CELLS some times over, or 99 (with B one more) is
            int want = (100 % cells == 0 ? 1 : 0) + (99 % cells == 0 ? 1 : 0);
            due.is("99 one more in " + cells, x.sturdy(0), want);
        }
    }

    private static void sturdyOfNoSuchNumber() {
        due.by("STURDY. NONE.");
        RingWars x = Due.with("jump .0", "die", "jump .0");
        for (int f : NO_FIGHTERS) {
            due.is("sturdy(" + f + ")", x.sturdy(f), RingWars.NONE);
        }
        due.is("the last", x.sturdy(2), 1);
    }

    private static void sturdyAtTheLimit() {
        due.by("alive behind LIMIT turns");
        RingWars x = Due.with("jump .1;jump .1;die");
        // with A of the first one more it dies in turn 2, else in turn 3
        x.physics(1, 2);
        due.is("LIMIT 2", x.sturdy(0), 5);
        x.physics(1, 3);
        due.is("LIMIT 3", x.sturdy(0), 0);
        x.physics(1, 1);
        due.is("LIMIT 1", x.sturdy(0), 6);
        due.is("of one that dies at once", Due.with("die").sturdy(0), 0);
        due.is("of that with LIMIT 1", ring(16, 1, "die").sturdy(0), 0);
    }

    /** All CELLS' ORDERS and the threads of a fighter that is alone at 0, behind so many turns. */
    private static String behind(int cells, String text, int turns) {
        RingWars x = ring(cells, 150, text);
        x.set(0, 0);
        if (turns > 0) {
            x.run(turns);
        }
        StringBuilder all = new StringBuilder();
        for (int cell = 0; cell < cells; cell++) {
            for (int what = 0; what <= 4; what++) {
                all.append(x.cell(cell, what)).append(' ');
            }
        }
        return all + Due.threads(x, 0);
    }

    private static void roundsByStates() {
        due.by("ROUND: alone, at 0: the least p (1 .. LIMIT less 1) for which all that there is (CELLS' ORDERS, threads in their "
            + "order) behind LIMIT turns is as it was p turns ahead (-5: none; also if it died).");
        String[] texts = {"copy .0 .1", "jump .1;jump .-1", "add #1 .1;jump .-1", "split .1;jump .0;jump .0",
            "split .2;jump .0;jump .0", "split .0;jump .-1", "jump .1;jump .1;jump .0", "add #2 .2;jump .-1;die",
            "add #4 #0;jump .-1", "copy #3 .2;jump .-1", "die", "jump .1",
            // one thread at 4 behind turns 4 and 8, and a second one dead ahead of each, elsewhere
            "split .3;jump .1;jump .2;die;split .3;jump .1;jump .-2;die"};
        int[] limits = {1, 2, 3, 8, 9, 16, 17, 18, 40};
        for (String text : texts) {
            for (int limit : limits) {
                String last = behind(8, text, limit);
                boolean dead = last.endsWith(" ");
                int want = NOBODY;
                for (int p = limit - 1; p >= 1 && !dead; p--) {
                    want = behind(8, text, limit - p).equals(last) ? p : want;
                }
                due.is("round of " + text + ", LIMIT " + limit, ring(8, limit, text).round(0), want);
            }
        }
    }

    private static void roundsWithinTheLimit() {
        due.by("the least p (1 .. LIMIT less 1)");
        // it comes round in CELLS turns
        for (int cells : SIZES) {
            RingWars x = ring(cells, cells, "copy .0 .1", "jump .0", "jump .1;jump .-1");
            due.is("CELLS turns: behind no turn it was not all copies", x.round(0), NOBODY);
            x.physics(1, 2 * cells - 2);
            due.is("2 CELLS less 2 turns", x.round(0), NOBODY);
            x.physics(1, 2 * cells - 1);
            due.is("2 CELLS less 1 turns", x.round(0), cells);
            x.physics(1, 150);
            due.is("150 turns", x.round(0), cells);
            x.physics(1, 1);
            due.is("LIMIT 1: no p", x.round(1), NOBODY);
            x.physics(1, 2);
            due.is("LIMIT 2: p 1", x.round(1), 1);
            due.is("LIMIT 2: no p of 2", x.round(2), NOBODY);
            x.physics(1, 3);
            due.is("LIMIT 3: p 2", x.round(2), 2);
        }
    }

    private static void roundsOfNoSuchNumber() {
        due.by("ROUND; -5. NONE.");
        RingWars x = Due.with("jump .0", "die", "jump .1;jump .-1");
        for (int f : NO_FIGHTERS) {
            due.is("round(" + f + ")", x.round(f), RingWars.NONE);
        }
        due.is("none", x.round(1), NOBODY);
        due.is("the last", x.round(2), 2);
    }

    private static void roundsOfTheDead() {
        due.by("(-5: none; also if it died)");
        RingWars x = Due.with("die", "jump .1;jump .1;die", "split .2;die;jump .0");
        due.is("dead in turn 1", x.round(0), NOBODY);
        due.is("dead in turn 3", x.round(1), NOBODY);
        due.is("one of its threads is dead", x.round(2), 1);
        RingWars y = ring(16, 8, "split .3;jump .1;jump .2;die;split .3;jump .1;jump .-2;die");
        due.is("one of its threads is dead each time", y.round(0), 4);
        x.physics(1, 3);
        due.is("dead in turn LIMIT", x.round(1), NOBODY);
        x.physics(1, 1);
        due.is("dead in turn LIMIT 1", x.round(0), NOBODY);
        x.physics(1, 2);
        due.is("dead ahead of LIMIT", x.round(0), NOBODY);
    }

    private static void sameWithinTheLimit() {
        due.by("SAME DEEDS of two: each alone at 0: the first turn (of LIMIT) in which one writes and the other doesn't");
        RingWars x = Due.with("jump .1;jump .1;jump .1;add #1 .0;jump .0", "jump .1;jump .1;jump .1;jump .1;jump .0", "jump .0");
        int[] limits = {1, 3, 4, 5, 150};
        for (int limit : limits) {
            x.physics(1, limit);
            due.is("a write in turn 4, LIMIT " + limit, x.same(0, 1), limit >= 4 ? 4 : NOBODY);
            due.is("the other way", x.same(1, 0), limit >= 4 ? 4 : NOBODY);
            due.is("no writes", x.same(1, 2), NOBODY);
            due.is("itself", x.same(0, 0), NOBODY);
        }
    }

    private static void sameByEveryCell() {
        due.by("in which one writes and the other doesn't");
        for (int cell = 0; cell < 16; cell++) {
            RingWars x = Due.with("add #1 ." + cell + ";jump .0", "jump .1;jump .0", "add #1 ." + (cell + 1) + ";jump .0");
            due.is("a write to " + cell, x.same(0, 1), 1);
            due.is("the other's", x.same(1, 0), 1);
            due.is("and to the next", x.same(0, 2), 1);
            due.is("like writes", x.same(0, 0), NOBODY);
        }
    }

    private static void sameOfNoSuchNumber() {
        due.by("SAME DEEDS; -5. NONE.");
        RingWars x = Due.with("jump .0", "die", "jump .1;jump .-1");
        for (int f : NO_FIGHTERS) {
            due.is("same(" + f + ", 0)", x.same(f, 0), RingWars.NONE);
            due.is("same(0, " + f + ")", x.same(0, f), RingWars.NONE);
            due.is("same(" + f + ", " + f + ")", x.same(f, f), RingWars.NONE);
        }
        due.is("none", x.same(0, 2), NOBODY);
        due.is("the last two", x.same(1, 2), 1);
    }

    private static void sameBeyondReach() {
        due.by("(a write that does nothing is none)");
        for (int reach = 1; reach <= 5; reach++) {
            RingWars x = Due.with("copy .0 .3;jump .0", "jump .1;jump .0", "copy .0 .-4;jump .0");
            x.physics(3, reach);
            due.is("3 on, REACH " + reach, x.same(0, 1), reach >= 3 ? 1 : NOBODY);
            due.is("4 back, REACH " + reach, x.same(2, 1), reach >= 4 ? 1 : NOBODY);
            due.is("both, REACH " + reach, x.same(0, 2), reach >= 3 ? 1 : NOBODY);
        }
    }

    private static void sameByTheLastWrite() {
        due.by("or other CELLS (of the CELL that was written last in it)");
        RingWars x = new RingWars();
        // A's step behind at 5, B's at 6, the copy to 6: the last is cell 6
        Due.loaded(x, 1, 3, 5, 3, 6, 3, 0, 0, 4, 0);
        Due.loaded(x, 1, 0, 5, 0, 6, 3, 0, 0, 4, 0);
        Due.loaded(x, 1, 0, 5, 0, 5, 3, 0, 0, 4, 0);
        Due.loaded(x, 0, 3, 5, 3, 6, 3, 0, 0, 4, 0);
        Due.loaded(x, 3, 4, 0, 3, 6, 3, 0, 0, 4, 0);
        due.is("like last ones", x.same(0, 1), NOBODY);
        due.is("other last ones", x.same(0, 2), 1);
        due.is("dead behind its writes", x.same(0, 3), 1);
        due.is("a write and a copy", x.same(1, 4), 2);
        Due.loaded(x, 1, 3, 5, 0, 9, 3, 0, 0, 4, 0);
        x.physics(3, 5);
        // the copy itself does nothing: A's step is the last write
        Due.loaded(x, 1, 0, 5, 0, 5, 3, 0, 0, 4, 0);
        due.is("the last that does something", x.same(5, 6), NOBODY);
    }

    private static void sameOfTheDead() {
        due.by("or one is dead and the other isn't (-5: none)");
        RingWars x = Due.with("die", "jump .1;die", "jump .1;jump .1;die", "jump .0", "split .1;die;die", "split .0;die");
        due.is("both dead at once", x.same(0, 0), NOBODY);
        due.is("one in turn 1", x.same(0, 1), 1);
        due.is("one in turn 2", x.same(1, 2), 2);
        due.is("one in turn 3", x.same(2, 3), 3);
        due.is("both in turn 3", x.same(2, 4), NOBODY);
        x.physics(1, 2);
        due.is("one in turn 3, LIMIT 2", x.same(2, 3), NOBODY);
        x.physics(1, 3);
        due.is("one in turn 3, LIMIT 3", x.same(2, 3), 3);
        due.is("one thread of two is none", x.same(5, 3), NOBODY);
    }

    private static void theWarStays() {
        due.by("DUELS and all that is worked out by them leave THE WAR as it is.");
        RingWars x = ring(8, 60, POOL[2], POOL[3], POOL[7]);
        x.set(0, 0);
        x.set(1, 3);
        x.run(2);
        x.image();
        x.run(3);
        x.act(2, 2, 9);
        Due.feed(x, "jump .");
        String before = Due.war(x) + Due.trace(x) + x.count(6);
        x.duel(0, 1, 4, 0);
        x.all(0, 1, 0);
        x.key(1, 0);
        x.tune(1, 0, 0, 0);
        x.worth(0);
        x.ladder(0);
        x.ring(0);
        x.unlike(0, 1);
        x.garden(7, 0);
        x.sturdy(0);
        x.round(0);
        x.same(0, 1);
        due.is("the war, the trace and the text", Due.war(x) + Due.trace(x) + x.count(6), before);
        x.run(1);
        RingWars y = ring(8, 60, POOL[2], POOL[3], POOL[7]);
        y.set(0, 0);
        y.set(1, 3);
        y.run(6);
        due.is("it goes on as if they had not been", Due.war(x), Due.war(y));
        due.is("the image stays, too", x.back(), 2);
    }
}
