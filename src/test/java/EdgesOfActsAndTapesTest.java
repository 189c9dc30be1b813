/** The document's chapters 5 and 6, and promises 26 to 35: each sentence that names an edge, with a test of its own. */
public final class EdgesOfActsAndTapesTest {
    private static final int NOTHING = -11, CAST = -12, PLACE = -13, SIZE = -14;
    private static final int MIN = Integer.MIN_VALUE, MAX = Integer.MAX_VALUE;
    private static final int[] SIZES = {8, 9, 16, 31, 32};
    private static final int[] NO_TAPES = {-1, 6, MIN, MAX};
    private static final String[][] TRACES = {{"10", "11 10", "12 11 10"}, {"10", "20 11 10", "12 20 11 10"},
        {"10", "30 20 11 10 10", "31 12 30 20 11 10 10"}, {"40 10", "11 40 10", "12 11 40 10"},
        {"40 10", "11 40 10", "50 11 40 10 12 11 40 10"}, {"10", "11 10", "60 12 11 10 10"},
        {"70 40 10", "71 11 70 40 10", "12 71 11 70 40 10"}};
    private static final Due due = new Due();

    public static void main(String[] args) {
        imagesOfNoneAndOfTheLast();
        imagesHoldAll();
        imagesOfTheDead();
        imagesNextTurn();
        backToNone();
        backInOtherCells();
        actsWrap();
        actsOfEmptyCells();
        actsOfNoSuchNumber();
        bodiesOfTheNextKindAbove();
        bodiesFromTheLeft();
        tracesOfAllKinds();
        tracesKeepTheFirst();
        tracesOfNoSuchNumber();
        kindsAreUnderOthers();
        takenByKind();
        takenOfNoSuchNumber();
        takenNamesTheFirst();
        countsAtFirstAndAtMost();
        countsOfNoSuchNumber();
        tapesHoldNothingAtFirst();
        tapesOfNoneToSixty();
        tapesTooLongOrBelowZero();
        tapesOfNoSuchSort();
        tapesBecomeNothing();
        itemsLowestBits();
        itemsOfBooleans();
        itemsOfNoSuchPlace();
        readsOfNoSuchPlace();
        shiftsAtAllEnds();
        shiftsOntoThemselves();
        shiftsOfHugeNumbers();
        shiftsOfUnlikeSorts();
        shiftsNameTheFirst();
        theHostsRefusals();
        due.end();
    }

    // ---- the image

    private static void imagesOfNoneAndOfTheLast() {
        due.by("THE IMAGE is taken: turns done.");
        RingWars x = Due.with("jump .0");
        x.physics(1, 150);
        due.is("of no war", x.image(), 0);
        x.set(0, 0);
        due.is("ahead of the first turn", x.image(), 0);
        x.run(1);
        due.is("behind one", x.image(), 1);
        x.run(150);
        due.is("behind the last", x.image(), 150);
        due.is("it goes on being over", x.state(1), 1);
        x.clear();
        due.is("back to the last", x.back(), 150);
        due.is("over, too", x.run(1), RingWars.STATE);
    }

    private static void imagesHoldAll() {
        due.by("THE IMAGE: THE WAR that is set (CELLS, threads, turns, HEAT, who died).");
        for (int cells = 8; cells <= 16; cells += 8) {
            RingWars x = Due.with("split .2;copy .-1 >7;add #1 .-1;jump .-3", "jump .0", "jump .1;die");
            x.physics(0, cells);
            x.physics(2, 8);
            x.set(0, 0);
            x.set(2, 4);
            x.set(1, cells - 1);
            x.run(25);
            x.image();
            String then = Due.war(x);
            x.run(150);
            x.clear();
            x.set(1, 3);
            x.run(5);
            due.is("turns", x.back(), 25);
            due.is("all that there was", Due.war(x), then);
        }
    }

    private static void imagesOfTheDead() {
        due.by("HEAT, who died");
        RingWars x = Due.with("jump .0", "die", "jump .1;add #1 .1;die");
        x.set(0, 0);
        x.set(1, 3);
        x.set(2, 6);
        x.set(1, 12);
        x.run(4);
        x.image();
        x.clear();
        for (int side = 0; side < 4; side++) {
            x.set(0, side);
        }
        x.run(9);
        due.is("nobody died in another war", x.died(1, 0) + " " + x.died(3, 1), "-5 -5");
        due.is("turns", x.back(), 4);
        int[] died = {-5, 2, -5, 4};
        int[] killers = {-5, 1, -5, 3};
        for (int side = 0; side < 4; side++) {
            due.is("when " + side + " died", x.died(side, 0), died[side]);
            due.is("who killed " + side, x.died(side, 1), killers[side]);
        }
        due.is("who has threads", x.state(3), 5);
        x.run(150);
        due.is("who died since", x.died(2, 0), 8);
        due.is("and by whom", x.died(2, 1), 2);
        due.is("heat since", x.cell(8, 6), 1);
        x.back();
        due.is("alive again", x.died(2, 0), -5);
        due.is("by nobody", x.died(2, 1), -5);
        due.is("heat as then", x.cell(8, 6), 0);
    }

    private static void imagesNextTurn() {
        due.by("THE WAR is as THE IMAGE: turns done.");
        for (int turns = 0; turns <= 9; turns++) {
            RingWars x = Due.with("jump .1;jump .1;jump .1;jump .1;jump .0", "die");
            x.physics(0, 18);
            x.set(0, 0);
            x.set(1, 6);
            x.set(0, 8);
            x.set(0, 13);
            if (turns > 0) {
                x.run(turns);
            }
            x.image();
            x.run(2);
            String on = threads(x);
            due.is("back", x.back(), turns);
            x.run(2);
            due.is("the next turns are those that would have been, behind " + turns, threads(x), on);
            x.clear();
            x.set(0, 3);
            x.run(1);
            due.is("back from another war", x.back(), turns);
            x.run(2);
            due.is("the next turns then", threads(x), on);
        }
    }

    private static String threads(RingWars x) {
        StringBuilder all = new StringBuilder();
        for (int side = 0; side < x.count(5); side++) {
            all.append(Due.threads(x, side)).append(';');
        }
        return all.toString();
    }

    private static void backToNone() {
        due.by("STATE: there is none");
        RingWars x = Due.with("jump .0");
        due.is("no image", x.back(), RingWars.STATE);
        x.set(0, 5);
        x.run(3);
        due.is("no image in a war", x.back(), RingWars.STATE);
        due.is("the war stays", x.state(0), 3);
        x.clear();
        x.image();
        due.is("an image of no war", x.back(), 0);
        x.set(0, 5);
        x.run(3);
        due.is("back to no war", x.back(), 0);
        due.is("no sides", x.count(5), 0);
        due.is("an empty ring", Due.cell(x, 5), "0 4 0 4 0 -5 0");
        due.is("it can be set again", x.set(0, 5), 0);
    }

    private static void backInOtherCells() {
        due.by("or CELLS are not as many as then");
        for (int then = 8; then <= 32; then += 8) {
            for (int now = 8; now <= 32; now++) {
                RingWars x = Due.with("jump .0");
                x.physics(0, then);
                x.set(0, then - 1);
                x.run(2);
                x.image();
                x.clear();
                x.physics(0, now);
                due.is("from " + now + " to " + then, x.back(), now == then ? 2 : RingWars.STATE);
                due.is("sides", x.count(5), now == then ? 1 : 0);
                x.clear();
                x.physics(0, then);
                due.is("as many again", x.back(), 2);
                due.is("its thread", Due.threads(x, 0), "" + (then - 1));
            }
        }
    }

    // ---- acts

    /** The act's answer, written out for each KIND and cut to an int at the end. */
    private static int answer(int kind, int act, long c, long b, long x) {
        switch (kind * 3 + act) {
            case 0, 3, 6, 15:
                return (int) (x + c);
            case 1, 16:
                return (int) (x + c - b);
            case 2:
                return (int) ((x + c - b) * 2);
            case 4:
                return (int) (x + c - b ^ 5);
            case 5:
                return (int) ((x + c - b ^ 5) * 2);
            case 7:
                return (int) ((x + c - b ^ 5) + 2 + c);
            case 8:
                return (int) (((x - 1 + c - b ^ 5) + 2 + c) * 2);
            case 9, 12:
                return (int) (-x - c);
            case 10, 13:
                return (int) (-x - c - b);
            case 11:
                return (int) ((-x - c - b) * 2);
            case 14:
                return (int) (x + c + b);
            case 17:
                return (int) ((x + c - b) * 2 + 1 + c);
            case 18:
                return (int) (-3 * x - c);
            case 19:
                return (int) (-3 * x - c - b ^ c);
            default:
                return (int) ((-3 * x - c - b ^ c) * 2);
        }
    }

    private static void actsWrap() {
        due.by("ACTS of CELLS of THE WAR by KIND, with x (wrapping): 0 reads, 1 does, 2 ends; c the CELL, b its NUMBER B.");
        int[] numbers = {0, 1, -1, 2, 10, MAX, MIN, MAX - 1, MIN + 1, MAX - 31, MIN + 31, 1 << 30, -(1 << 30), MAX / 3,
            MAX / 3 + 1, MIN / 3, 0x55555555, 0xaaaaaaaa};
        for (int cells : SIZES) {
            int[] places = {0, 1, cells / 2, cells - 1};
            for (int kind = 0; kind <= 6; kind++) {
                for (int c : places) {
                    for (int b = 0; b < cells; b += cells - 1) {
                        RingWars x = new RingWars();
                        x.physics(0, cells);
                        Due.loaded(x, kind, 0, 1, 0, b);
                        x.set(0, c);
                        for (int n : numbers) {
                            for (int act = 0; act <= 2; act++) {
                                due.is("KIND " + kind + " at " + c + " with " + b + ", act " + act + " of " + n,
                                    x.act(c, act, n), answer(kind, act, c, b, n));
                            }
                        }
                    }
                }
            }
        }
    }

    private static void actsOfEmptyCells() {
        due.by("An ACT of a CELL's KIND with x.");
        for (int cells : SIZES) {
            RingWars x = new RingWars();
            x.physics(0, cells);
            for (int cell = 0; cell < cells; cell++) {
                due.is("reads of empty " + cell, x.act(cell, 0, 7), 7 + cell);
                due.is("does of empty " + cell, x.act(cell, 1, -cell), 0);
                due.is("ends of empty " + cell, x.act(cell, 2, 1), 2 + 2 * cell);
            }
        }
        // the KIND is the one that the cell has now
        RingWars y = Due.with("copy .2 .1;die;jump .0");
        y.set(0, 0);
        due.is("a die", y.act(1, 0, 5), 6);
        y.run(1);
        due.is("a jump", y.act(1, 0, 5), -6);
    }

    private static void actsOfNoSuchNumber() {
        due.by("0, and no TRACE then: no such CELL, act.");
        for (int cells : SIZES) {
            RingWars x = new RingWars();
            x.physics(0, cells);
            int[][] wrong = {{-1, 0}, {cells, 0}, {MIN, 1}, {MAX, 2}, {0, -1}, {0, 3}, {cells - 1, MIN}, {0, MAX}, {-1, -1},
                {cells, 3}};
            for (int[] call : wrong) {
                x.act(0, 2, 5);
                due.is("bodies", x.count(7), 3);
                due.is("act(" + call[0] + ", " + call[1] + ", 5)", x.act(call[0], call[1], 5), 0);
                due.is("no bodies", x.count(7), 0);
                due.is("no trace", x.trace(0), RingWars.NONE);
            }
            due.is("again, without a trace ahead", x.act(-1, 0, 5), 0);
            due.is("the last cell's last act", x.act(cells - 1, 2, 5), 2 * (cells + 4));
            due.is("bodies then", x.count(7), 3);
        }
    }

    /** A cell of a KIND at 3, whose NUMBER B is 2, has acted with 10. */
    private static String traceOf(int kind, int act) {
        RingWars x = new RingWars();
        Due.loaded(x, kind, 0, 0, 0, 2);
        x.set(0, 3);
        int answer = x.act(3, act, 10);
        return answer + ": " + Due.trace(x);
    }

    private static void bodiesOfTheNextKindAbove() {
        due.by("reads(..) and so on: the body of its KIND, or, if that has none, of the next KIND above that has one; "
            + "super.reads(..): so from the KIND above the body's on");
        due.is("SPLIT's reads in DIE's does", traceOf(6, 1), "-34: 71 11 70 40 10");
        due.is("JUMP's reads in DIE's does, of IFZ", traceOf(4, 1), "-15: 11 40 10");
        due.is("COPY's does in DIE's ends, of COPY", traceOf(1, 2), "28: 12 20 11 10");
        due.is("ADD's super.reads is DIE's, past COPY", traceOf(2, 1), "19: 30 20 11 10 10");
        due.is("ADD's super.ends is DIE's, past COPY", traceOf(2, 2), "40: 31 12 30 20 11 10 10");
        due.is("IFZ's super.ends is DIE's, past JUMP", traceOf(4, 2), "15: 50 11 40 10 12 11 40 10");
        due.is("SKIP has no reads of its own", traceOf(5, 0), "13: 10");
    }

    private static void bodiesFromTheLeft() {
        due.by("all that stands in a body is done from the left on");
        due.is("does, then reads", traceOf(2, 1), "19: 30 20 11 10 10");
        due.is("does, then ends", traceOf(4, 2), "15: 50 11 40 10 12 11 40 10");
        due.is("ends, then reads", traceOf(5, 2), "26: 60 12 11 10 10");
    }

    private static void tracesOfAllKinds() {
        due.by("THE TRACE: the numbers of the bodies that ran in the latest act(), as they began");
        RingWars x = new RingWars();
        due.is("ahead of the first act", x.count(7) + Due.trace(x), "0");
        Due.loaded(x, 0, 4, 0, 4, 1, 1, 0, 0, 0, 1, 2, 0, 0, 0, 1, 3, 0, 0, 0, 1, 4, 0, 0, 0, 1, 5, 0, 0, 0, 1, 6, 0, 0, 0, 1);
        x.set(0, 12);
        for (int kind = 0; kind <= 6; kind++) {
            for (int act = 0; act <= 2; act++) {
                x.act((12 + kind) % 16, act, kind);
                due.is("KIND " + kind + ", act " + act, Due.trace(x), TRACES[kind][act]);
            }
        }
    }

    private static void tracesKeepTheFirst() {
        due.by("the first 20 are kept");
        RingWars x = new RingWars();
        Due.loaded(x, 4, 0, 0, 0, 1);
        x.set(0, 0);
        // no act runs more than the eight bodies of IFZ's ends: all are kept
        x.act(0, 2, 1);
        due.is("bodies", x.count(7), 8);
        String[] want = TRACES[4][2].split(" ");
        for (int i = 0; i < 8; i++) {
            due.is("trace(" + i + ")", x.trace(i), Integer.parseInt(want[i]));
        }
        for (int i = 8; i <= 22; i++) {
            due.is("trace(" + i + ")", x.trace(i), RingWars.NONE);
        }
        for (int again = 0; again < 5; again++) {
            x.act(0, 2, again);
        }
        due.is("those of the latest alone", x.count(7), 8);
    }

    private static void tracesOfNoSuchNumber() {
        due.by("THE TRACE's i-th body. NONE.");
        RingWars x = new RingWars();
        int[] wrong = {-1, 3, 19, 20, 21, MIN, MAX};
        for (int i : wrong) {
            due.is("trace(" + i + ") at first", x.trace(i), RingWars.NONE);
        }
        due.is("trace(0) at first", x.trace(0), RingWars.NONE);
        x.act(0, 2, 0);
        for (int i : wrong) {
            due.is("trace(" + i + ")", x.trace(i), RingWars.NONE);
        }
        due.is("the first", x.trace(0), 12);
        due.is("the last", x.trace(2), 10);
        x.act(0, 0, 0);
        due.is("a shorter one", x.trace(0) + " " + x.trace(1), "10 -1");
    }

    private static void kindsAreUnderOthers() {
        due.by("KINDS: 0 DIE; 1 COPY under DIE; 2 ADD under COPY; 3 JUMP under DIE; 4 IFZ under JUMP; 5 SKIP under DIE; "
            + "6 SPLIT under JUMP.");
        String[] words = {"die", "copy .0 .0", "add .0 .0", "jump .0", "ifz .0 .0", "skip .0 .0", "split .0"};
        int[] above = {0, 0, 1, 0, 3, 0, 3};
        for (int kind = 0; kind <= 6; kind++) {
            RingWars x = Due.with(words[kind]);
            x.set(0, 15);
            due.is("the KIND of " + words[kind], x.cell(15, 0), kind);
            due.is("for itself", x.taken(15, kind), kind);
            due.is("for the one above", x.taken(15, above[kind]), kind);
            for (int under = 0; under <= 6; under++) {
                if (under != kind && above[under] == kind) {
                    due.is("for one under it", x.taken(15, under), under == 0 ? kind : CAST);
                }
            }
        }
    }

    private static void takenByKind() {
        due.by("A CELL's ORDER taken for one of KIND k (0 .. 6), or one under that: its KIND.");
        int[][] above = {{0}, {0, 1}, {0, 1, 2}, {0, 3}, {0, 3, 4}, {0, 5}, {0, 3, 6}};
        for (int kind = 0; kind <= 6; kind++) {
            RingWars x = new RingWars();
            Due.loaded(x, kind, 0, 0, 0, 0);
            x.set(0, 15);
            for (int k = 0; k <= 6; k++) {
                boolean fits = false;
                for (int up : above[kind]) {
                    fits |= up == k;
                }
                due.is("KIND " + kind + " for " + k, x.taken(15, k), fits ? kind : CAST);
            }
            due.is("an empty one for DIE", x.taken(0, 0), 0);
            due.is("an empty one for the last", x.taken(0, 6), CAST);
        }
    }

    private static void takenOfNoSuchNumber() {
        due.by("BAD: k; NOTHING: no such CELL; CAST.");
        for (int cells : SIZES) {
            RingWars x = new RingWars();
            x.physics(0, cells);
            int[] kinds = {-1, 7, MIN, MAX};
            int[] places = {-1, cells, MIN, MAX};
            for (int i = 0; i < 4; i++) {
                due.is("k " + kinds[i], x.taken(0, kinds[i]), RingWars.BAD);
                due.is("cell " + places[i], x.taken(places[i], 0), NOTHING);
            }
            due.is("the last cell", x.taken(cells - 1, 0), 0);
            due.is("the last cell for COPY", x.taken(cells - 1, 1), CAST);
        }
    }

    private static void takenNamesTheFirst() {
        due.by("the first that a call's words name");
        RingWars x = new RingWars();
        due.is("k ahead of the cell", x.taken(16, 7), RingWars.BAD);
        due.is("k below and the cell below", x.taken(-1, -1), RingWars.BAD);
        due.is("the cell ahead of the cast", x.taken(16, 6), NOTHING);
    }

    private static void countsAtFirstAndAtMost() {
        due.by("How many: 0 CELLS, 1 LIMIT, 2 MOST, 3 REACH, 4 FIGHTERS, 5 SIDES, 6 bytes of THE TEXT, 7 bodies that ran in the "
            + "latest act().");
        int[] first = {16, 100, 4, 32, 0, 0, 0, 0};
        int[] last = {32, 150, 8, 32, 8, 4, 150, 8};
        RingWars x = new RingWars();
        for (int what = 0; what < 8; what++) {
            due.is("count(" + what + ") at first", x.count(what), first[what]);
        }
        for (int what = 0; what < 4; what++) {
            x.physics(what, last[what]);
        }
        for (int f = 0; f < 8; f++) {
            Due.fighter(x, "ifz .0 .0");
        }
        for (int side = 0; side < 4; side++) {
            x.set(side, side);
        }
        Due.feed(x, "x".repeat(150));
        x.act(0, 2, 0);
        for (int what = 0; what < 8; what++) {
            due.is("count(" + what + ") at most", x.count(what), last[what]);
        }
    }

    private static void countsOfNoSuchNumber() {
        due.by("7 bodies that ran in the latest act(). BAD.");
        RingWars x = new RingWars();
        int[] wrong = {-1, 8, MIN, MAX};
        for (int what : wrong) {
            due.is("count(" + what + ")", x.count(what), RingWars.BAD);
        }
    }

    // ---- tapes

    private static void tapesHoldNothingAtFirst() {
        due.by("TAPES 0 .. 5 hold nothing (at first)");
        RingWars x = new RingWars();
        for (int tape = 0; tape <= 5; tape++) {
            due.is("read(" + tape + ", 0)", x.read(tape, 0), RingWars.NO);
            due.is("item(" + tape + ", 0, 1)", x.item(tape, 0, 1), NOTHING);
            due.is("load(" + tape + ", 0, 1)", x.load(tape, 0, 1), NOTHING);
            due.is("shift of it", x.shift(tape, 0, tape, 0, 0), NOTHING);
        }
        for (int tape : NO_TAPES) {
            due.is("tape(" + tape + ", ..)", x.tape(tape, 0, 1), RingWars.NONE);
            due.is("tape(" + tape + ", -1, ..)", x.tape(tape, -1, 1), RingWars.NONE);
            due.is("read(" + tape + ", 0)", x.read(tape, 0), RingWars.NO);
            due.is("item(" + tape + ", ..)", x.item(tape, 0, 1), RingWars.NONE);
            due.is("load(" + tape + ", ..)", x.load(tape, 0, 1), RingWars.NONE);
        }
    }

    private static void tapesOfNoneToSixty() {
        due.by("A TAPE becomes a row of n (0 .. 60) of a sort, all 0");
        for (int tape = 0; tape <= 5; tape++) {
            for (int sort = 0; sort <= 4; sort++) {
                RingWars x = new RingWars();
                int[] lengths = {60, 0, 1, 59, 60};
                for (int n : lengths) {
                    due.is("tape(" + tape + ", " + sort + ", " + n + ")", x.tape(tape, sort, n), 1);
                    int zeros = 0;
                    for (int i = 0; i < n; i++) {
                        zeros += x.read(tape, i) == 0 ? 1 : 0;
                    }
                    due.is("all 0", zeros, n);
                    due.is("no more", x.read(tape, n), RingWars.NO);
                    due.is("no item more", x.item(tape, n, 1), PLACE);
                    if (n > 0) {
                        due.is("the last", x.item(tape, n - 1, -1), 1);
                        due.is("the first", x.item(tape, 0, -1), 1);
                    }
                }
            }
        }
    }

    private static void tapesTooLongOrBelowZero() {
        due.by("NONE: tape; BAD: sort, n above 60; SIZE.");
        RingWars x = new RingWars();
        for (int sort = 0; sort <= 4; sort++) {
            x.tape(1, sort, 3);
            x.item(1, 2, 1);
            int[] above = {61, 62, 1000, MAX};
            int[] below = {-1, -2, -60, MIN};
            for (int k = 0; k < 4; k++) {
                due.is("n " + above[k], x.tape(1, sort, above[k]), RingWars.BAD);
                due.is("n " + below[k], x.tape(1, sort, below[k]), SIZE);
            }
            due.is("it stays", x.read(1, 2), 1);
            due.is("no longer", x.read(1, 3), RingWars.NO);
        }
        due.is("the tape is named first", x.tape(6, 5, -1), RingWars.NONE);
        due.is("the sort is named ahead of the size", x.tape(1, 5, -1), RingWars.BAD);
        due.is("the tape ahead of the size", x.tape(-1, 0, -1), RingWars.NONE);
    }

    private static void tapesOfNoSuchSort() {
        due.by("a row of 0 bytes, 1 shorts, 2 ints, 3 longs, 4 booleans (items 0, 1)");
        RingWars x = new RingWars();
        int[] wrong = {-2, 5, MIN, MAX};
        for (int sort : wrong) {
            due.is("sort " + sort, x.tape(2, sort, 4), RingWars.BAD);
            due.is("nothing is there", x.item(2, 0, 0), NOTHING);
        }
        x.tape(2, 2, 4);
        x.item(2, 3, 77);
        for (int sort : wrong) {
            due.is("sort " + sort, x.tape(2, sort, 4), RingWars.BAD);
        }
        due.is("it stays", x.read(2, 3), 77);
        long[] all = {0xf1e2d3c4b5a69788L, 0x7f7f7f7f7f7f7f7fL};
        long[][] want = {{(byte) 0x88, 0x7f}, {(short) 0x9788, 0x7f7f}, {0xb5a69788, 0x7f7f7f7f}, all, {1, 1}};
        for (int sort = 0; sort <= 4; sort++) {
            due.is("a row of " + sort, x.tape(2, sort, 2), 1);
            for (int i = 0; i < 2; i++) {
                x.item(2, i, all[i]);
                due.is("an item of sort " + sort, x.read(2, i), want[sort][i]);
            }
        }
    }

    private static void tapesBecomeNothing() {
        due.by("or holds nothing (sort -1: n does not matter): 1.");
        int[] lengths = {0, 1, 60, 61, -1, MIN, MAX};
        for (int n : lengths) {
            RingWars x = new RingWars();
            due.is("of nothing, " + n, x.tape(5, -1, n), 1);
            x.tape(5, 1, 60);
            x.item(5, 59, 9);
            due.is("of a row, " + n, x.tape(5, -1, n), 1);
            due.is("nothing there", x.read(5, 0), RingWars.NO);
            due.is("no place, either", x.item(5, 0, 0), NOTHING);
            due.is("no row of shorts", x.load(5, 0, 1), NOTHING);
            x.tape(5, 1, 60);
            due.is("a row anew, all 0", x.read(5, 59), 0);
        }
    }

    private static void itemsLowestBits() {
        due.by("Item i of a TAPE becomes v (its lowest bits, as many as an item has");
        int[] bits = {8, 16, 32, 64};
        for (int sort = 0; sort <= 3; sort++) {
            RingWars x = new RingWars();
            x.tape(0, sort, 1);
            for (int k = 0; k < 64; k++) {
                long v = 1L << k;
                x.item(0, 0, v);
                long want = k < bits[sort] - 1 ? v : k == bits[sort] - 1 ? -v : 0;
                due.is("bit " + k + " of sort " + sort, x.read(0, 0), want);
                x.item(0, 0, v - 1);
                long less = k < bits[sort] ? v - 1 : -1;
                due.is("bits below " + k + " of sort " + sort, x.read(0, 0), less);
            }
            x.item(0, 0, Long.MIN_VALUE);
            due.is("the least", x.read(0, 0), sort == 3 ? Long.MIN_VALUE : 0);
            x.item(0, 0, Long.MAX_VALUE);
            due.is("the greatest", x.read(0, 0), sort == 3 ? Long.MAX_VALUE : -1);
        }
    }

    private static void itemsOfBooleans() {
        due.by("booleans: whether v is not 0): 1.");
        RingWars x = new RingWars();
        x.tape(0, 4, 1);
        for (int k = 0; k < 64; k++) {
            due.is("item", x.item(0, 0, 1L << k), 1);
            due.is("bit " + k, x.read(0, 0), 1);
            x.item(0, 0, 0);
            due.is("0", x.read(0, 0), 0);
        }
        x.item(0, 0, -1);
        due.is("-1", x.read(0, 0), 1);
    }

    private static void itemsOfNoSuchPlace() {
        due.by("NONE; NOTHING; PLACE.");
        RingWars x = new RingWars();
        x.tape(0, 3, 2);
        x.tape(1, 3, 0);
        int[] wrong = {-1, 2, 60, MIN, MAX};
        for (int i : wrong) {
            due.is("item(0, " + i + ", 1)", x.item(0, i, 1), PLACE);
            due.is("item(1, " + i + ", 1) of a row of none", x.item(1, i, 1), PLACE);
            due.is("item(2, " + i + ", 1) of nothing", x.item(2, i, 1), NOTHING);
            due.is("item(6, " + i + ", 1)", x.item(6, i, 1), RingWars.NONE);
        }
        due.is("the first of none", x.item(1, 0, 1), PLACE);
        for (int tape : NO_TAPES) {
            due.is("item(" + tape + ", 0, 1)", x.item(tape, 0, 1), RingWars.NONE);
        }
        due.is("nothing came", x.read(0, 0) + " " + x.read(0, 1), "0 0");
    }

    private static void readsOfNoSuchPlace() {
        due.by("Item i of a TAPE. NO: no such TAPE, nothing there, no such place.");
        RingWars x = new RingWars();
        x.tape(0, 3, 2);
        x.tape(1, 0, 0);
        x.item(0, 1, -5);
        due.is("the first", x.read(0, 0), 0);
        due.is("the last", x.read(0, 1), -5);
        int[] wrong = {-1, 2, 60, MIN, MAX};
        for (int i : wrong) {
            due.is("read(0, " + i + ")", x.read(0, i), RingWars.NO);
            due.is("read(1, " + i + ")", x.read(1, i), RingWars.NO);
            due.is("read(2, " + i + ")", x.read(2, i), RingWars.NO);
        }
        due.is("the first of none", x.read(1, 0), RingWars.NO);
        for (int tape : NO_TAPES) {
            due.is("read(" + tape + ", 0)", x.read(tape, 0), RingWars.NO);
        }
    }

    private static void row(RingWars x, int tape, int sort, int n, int from) {
        x.tape(tape, sort, n);
        for (int i = 0; i < n; i++) {
            x.item(tape, i, from + i);
        }
    }

    private static String rowOf(RingWars x, int tape, int n) {
        StringBuilder all = new StringBuilder();
        for (int i = 0; i < n; i++) {
            all.append(x.read(tape, i)).append(' ');
        }
        return all.toString();
    }

    private static void shiftsAtAllEnds() {
        due.by("PLACE: n, i or j is below 0, or beyond either's end.");
        for (int first = 0; first <= 3; first++) {
            for (int second = 0; second <= 3; second++) {
                for (int k = 0; k < 216; k++) {
                    int n = k / 36 - 1;
                    int i = k / 6 % 6 - 1;
                    int j = k % 6 - 1;
                    shiftIs(first, second, i, j, n);
                }
            }
        }
    }

    /** A shift from a row of 1, 2 .. to a row of 11, 12 .., of so many items. */
    private static void shiftIs(int first, int second, int i, int j, int n) {
        RingWars x = new RingWars();
        row(x, 4, 2, first, 1);
        row(x, 5, 2, second, 11);
        boolean well = n >= 0 && i >= 0 && j >= 0 && i + n <= first && j + n <= second;
        String call = "shift(" + i + ", " + j + ", " + n + ") of " + first + " to " + second;
        due.is(call, x.shift(4, i, 5, j, n), well ? n : PLACE);
        StringBuilder want = new StringBuilder();
        for (int at = 0; at < second; at++) {
            boolean came = well && at >= j && at < j + n;
            want.append(came ? i + at - j + 1 : 11 + at).append(' ');
        }
        due.is(call + ": the other", rowOf(x, 5, second), want.toString());
        due.is(call + ": its own", rowOf(x, 4, first), "1 2 3 ".substring(0, 2 * first));
    }

    private static void shiftsOntoThemselves() {
        due.by("n items of a TAPE from i on come to another one (or the same) from j on, as they all were before: n.");
        for (int n = 0; n <= 6; n++) {
            for (int i = 0; i <= 6; i++) {
                for (int j = 0; j <= 6; j++) {
                    RingWars x = new RingWars();
                    row(x, 3, 0, 6, 1);
                    boolean well = i + n <= 6 && j + n <= 6;
                    due.is("shift(" + i + ", " + j + ", " + n + ")", x.shift(3, i, 3, j, n), well ? n : PLACE);
                    StringBuilder want = new StringBuilder();
                    for (int at = 0; at < 6; at++) {
                        want.append(well && at >= j && at < j + n ? i + at - j + 1 : at + 1).append(' ');
                    }
                    due.is("the row then", rowOf(x, 3, 6), want.toString());
                }
            }
        }
        RingWars x = new RingWars();
        row(x, 0, 3, 60, 1);
        due.is("59 on by one", x.shift(0, 0, 0, 1, 59), 59);
        due.is("the first", x.read(0, 0), 1);
        due.is("the second", x.read(0, 1), 1);
        due.is("the last", x.read(0, 59), 59);
        due.is("all 60", x.shift(0, 0, 0, 0, 60), 60);
        due.is("none at the end", x.shift(0, 60, 0, 60, 0), 0);
        due.is("none beyond the end", x.shift(0, 61, 0, 0, 0), PLACE);
    }

    private static void shiftsOfHugeNumbers() {
        due.by("n, i or j is below 0, or beyond either's end");
        int[] numbers = {MIN, MIN + 1, -1, MAX - 1, MAX, 61};
        RingWars x = new RingWars();
        row(x, 0, 1, 5, 1);
        for (int n : numbers) {
            due.is("n " + n, x.shift(0, 0, 0, 0, n), PLACE);
            due.is("i " + n, x.shift(0, n, 0, 0, 1), PLACE);
            due.is("j " + n, x.shift(0, 0, 0, n, 1), PLACE);
            due.is("i " + n + " of none", x.shift(0, n, 0, 0, 0), PLACE);
            due.is("j " + n + " of none", x.shift(0, 0, 0, n, 0), PLACE);
            for (int m : numbers) {
                due.is("i " + n + ", n " + m, x.shift(0, n, 0, 0, m), PLACE);
                due.is("j " + n + ", n " + m, x.shift(0, 0, 0, n, m), PLACE);
            }
        }
        due.is("the row stays", rowOf(x, 0, 5), "1 2 3 4 5 ");
    }

    private static void shiftsOfUnlikeSorts() {
        due.by("CAST: of unlike sorts");
        RingWars x = new RingWars();
        for (int sort = 0; sort <= 4; sort++) {
            row(x, sort, sort, 2, 0);
        }
        for (int one = 0; one <= 4; one++) {
            for (int other = 0; other <= 4; other++) {
                due.is("sort " + one + " to " + other, x.shift(one, 0, other, 0, 2), one == other ? 2 : CAST);
                due.is("none of sort " + one + " to " + other, x.shift(one, 0, other, 0, 0), one == other ? 0 : CAST);
            }
            due.is("sort " + one + " to nothing", x.shift(one, 0, 5, 0, 1), NOTHING);
            due.is("nothing to sort " + one, x.shift(5, 0, one, 0, 1), NOTHING);
        }
    }

    private static void shiftsNameTheFirst() {
        due.by("NONE: tapes; NOTHING; CAST: of unlike sorts; PLACE");
        RingWars x = new RingWars();
        row(x, 0, 1, 2, 0);
        row(x, 1, 2, 2, 0);
        for (int tape : NO_TAPES) {
            due.is("from " + tape + " to nothing", x.shift(tape, -1, 3, -1, -1), RingWars.NONE);
            due.is("nothing to " + tape, x.shift(3, -1, tape, -1, -1), RingWars.NONE);
            due.is("from " + tape + " to itself", x.shift(tape, 0, tape, 0, 0), RingWars.NONE);
        }
        due.is("nothing to nothing", x.shift(3, -1, 4, -1, -1), NOTHING);
        due.is("nothing ahead of places", x.shift(0, -1, 3, 9, 9), NOTHING);
        due.is("sorts ahead of places", x.shift(0, -1, 1, 9, 9), CAST);
        due.is("places at last", x.shift(0, -1, 0, 9, 9), PLACE);
    }

    private static void theHostsRefusals() {
        due.by("The host's refusals: NOTHING (-11): nothing is there; CAST (-12): another sort or KIND; PLACE (-13): no such "
            + "place; SIZE (-14): a size below 0.");
        RingWars x = new RingWars();
        x.tape(0, 0, 1);
        due.is("nothing on a tape", x.item(1, 0, 0), -11);
        due.is("nothing at a cell", x.taken(16, 0), -11);
        due.is("another sort", x.load(0, 0, 1), -12);
        due.is("another KIND", x.taken(0, 1), -12);
        due.is("no such place", x.item(0, 1, 0), -13);
        due.is("a size below 0", x.tape(0, 0, -1), -14);
        due.is("a size of 0", x.tape(0, 0, 0), 1);
    }
}
