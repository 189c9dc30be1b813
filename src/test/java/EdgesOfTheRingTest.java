/** The document's chapter 1: each sentence that names an edge, with a test of its own. */
public final class EdgesOfTheRingTest {
    private static final String EMPTY = "0 4 0 4 0 -5 0";
    private static final int DIE = 0, COPY = 1, ADD = 2, JUMP = 3, IFZ = 4, SKIP = 5, SPLIT = 6;
    private static final int[] SIZES = {8, 9, 15, 16, 31, 32};
    private static final Due due = new Due();

    public static void main(String[] args) {
        cellsAreTooFewOrTooMany();
        cellsGoRound();
        limitIsTooSmallOrTooLarge();
        mostIsTooSmallOrTooLarge();
        reachIsTooSmallOrTooLarge();
        writesBeyondReach();
        reachIsFromTheOrder();
        physicsChange();
        modesFrom0To4();
        numbersAreRests();
        numbersStayRests();
        ownersOrNone();
        emptyCells();
        mode0();
        modes1To3();
        mode4();
        modesBeyondReach();
        placesOfKindsThatUseNone();
        placesAsTheStepBegan();
        theLastThreadDies();
        copies();
        adds();
        jumps();
        zeros();
        skips();
        splitsAtMost();
        withoutAWord();
        threadsQueue();
        due.end();
    }

    /** A new object of so many cells. */
    private static RingWars ofCells(int cells) {
        RingWars x = new RingWars();
        x.physics(0, cells);
        return x;
    }

    /** A ring in which one fighter, given by its items, stands at a cell and has done one turn. */
    private static RingWars stepped(int cells, int at, int... items) {
        RingWars x = ofCells(cells);
        Due.loaded(x, items);
        x.set(0, at);
        x.run(1);
        return x;
    }

    /** Where the threads are of a fighter of this text behind one turn from a cell. */
    private static String on(int cells, int at, String text) {
        RingWars x = ofCells(cells);
        Due.fighter(x, text);
        x.set(0, at);
        x.run(1);
        return Due.threads(x, 0);
    }

    /** The rest, counted on or back cell by cell. */
    private static int rest(int n, int cells) {
        int rest = n;
        while (rest < 0) {
            rest += cells;
        }
        while (rest >= cells) {
            rest -= cells;
        }
        return rest;
    }

    private static void edges(int what, int least, int greatest, int first) {
        RingWars x = new RingWars();
        due.is("count(" + what + ") at first", x.count(what), first);
        int[] wrong = {least - 1, greatest + 1, 0, -1, -greatest, Integer.MIN_VALUE, Integer.MAX_VALUE};
        for (int n : wrong) {
            due.is("physics(" + what + ", " + n + ")", x.physics(what, n), RingWars.BAD);
            due.is("count(" + what + ") then", x.count(what), first);
        }
        int was = first;
        for (int n = least; n <= greatest; n++) {
            due.is("physics(" + what + ", " + n + ")", x.physics(what, n), was);
            was = n;
        }
        due.is("count(" + what + ") at last", x.count(what), greatest);
    }

    private static void cellsAreTooFewOrTooMany() {
        due.by("THE RING has 8 .. 32 CELLS (16 at first)");
        edges(0, 8, 32, 16);
        for (int cells = 8; cells <= 32; cells++) {
            RingWars x = ofCells(cells);
            due.is("the first of " + cells, x.cell(0, 1), 4);
            due.is("the last of " + cells, x.cell(cells - 1, 1), 4);
            due.is("one more than " + cells, x.cell(cells, 1), RingWars.NONE);
        }
    }

    private static void cellsGoRound() {
        due.by("numbered from 0, counted on by rests");
        for (int cells : SIZES) {
            int last = cells - 1;
            due.is("no cell -1", ofCells(cells).cell(-1, 0), RingWars.NONE);
            due.is("on from the last", on(cells, last, "add #1 .0"), "0");
            due.is("on from the last but one", on(cells, last - 1, "add #1 .0"), "" + last);
            due.is("a jump on from the last", on(cells, last, "jump .1"), "0");
            due.is("a jump back from the first", on(cells, 0, "jump .-1"), "" + last);
            due.is("a whole round", on(cells, 3, "jump ." + cells), "3");
            due.is("a skip from the last", on(cells, last, "skip #0 #0"), "1");
            due.is("a skip from the last but one", on(cells, last - 1, "skip #0 #0"), "0");
            due.is("no skip from the last", on(cells, last, "skip #0 #1"), "0");
            due.is("not 0 at the last", on(cells, last, "ifz .2 #1"), "0");
            due.is("0 at the last", on(cells, last, "ifz .2 #0"), "1");
            due.is("a split at the last", on(cells, last, "split .2"), "0 1");
            RingWars x = ofCells(cells);
            Due.fighter(x, "copy .0 .1");
            x.set(0, 0);
            due.is("a whole round of copies", x.run(cells), cells);
            due.is("where it is then", Due.threads(x, 0), "0");
            for (int cell = 0; cell < cells; cell++) {
                due.is("cell " + cell + " of " + cells, Due.cell(x, cell), "1 0 0 0 1 0 1");
            }
        }
    }

    private static void limitIsTooSmallOrTooLarge() {
        due.by("LIMIT of turns (1 .. 150; 100 at first)");
        edges(1, 1, 150, 100);
        int[] limits = {1, 2, 99, 100, 149, 150};
        for (int limit : limits) {
            RingWars x = Due.with("jump .0");
            x.physics(1, limit);
            x.set(0, 0);
            due.is("turns within a LIMIT of " + limit, x.run(150), limit);
            due.is("no turn behind it", x.run(1), RingWars.STATE);
        }
        RingWars x = Due.with("jump .0");
        x.set(0, 0);
        due.is("turns within the first LIMIT", x.run(150), 100);
    }

    private static void mostIsTooSmallOrTooLarge() {
        due.by("MOST threads of one (1 .. 8; 4 at first)");
        edges(2, 1, 8, 4);
        for (int most = 1; most <= 8; most++) {
            RingWars x = Due.with("split .0;jump .-1");
            x.physics(2, most);
            x.set(0, 0);
            x.set(0, 8);
            int greatest = 0;
            for (int turn = 0; turn < 100; turn++) {
                x.run(1);
                greatest = Math.max(greatest, Math.max(x.thread(0, -1), x.thread(1, -1)));
            }
            due.is("never more than MOST", greatest, most);
            due.is("threads of side 0", x.thread(0, -1), most);
            due.is("threads of side 1, of its own", x.thread(1, -1), most);
        }
    }

    private static void reachIsTooSmallOrTooLarge() {
        due.by("REACH of writes (1 .. 32; 32 at first)");
        edges(3, 1, 32, 32);
        for (int far = 0; far < 32; far++) {
            RingWars x = stepped(32, 5, COPY, 0, 0, 0, far);
            due.is("within the first REACH, " + far, x.cell((5 + far) % 32, 6), 1);
            RingWars y = ofCells(32);
            y.physics(3, 1);
            Due.loaded(y, COPY, 0, 0, 0, far);
            y.set(0, 5);
            y.run(1);
            due.is("within a REACH of 1, " + far, y.cell((5 + far) % 32, 6), far <= 1 || far == 31 ? 1 : 0);
        }
    }

    private static void writesBeyondReach() {
        due.by("a write to a CELL that is farther than REACH either way round from the ORDER that does it does nothing");
        int[][] writers = {{COPY, 0, 0, 0, 0}, {COPY, 4, 5, 0, 0}, {ADD, 0, 0, 0, 0}, {ADD, 4, 5, 0, 0},
            {JUMP, 4, 0, 2, 0}, {JUMP, 4, 0, 3, 0}};
        for (int cells : SIZES) {
            for (int reach = 1; reach <= 32; reach += reach == 18 ? 14 : 1) {
                for (int far = 1; far < cells; far++) {
                    int[] items = writers[far % writers.length].clone();
                    items[4] = far;
                    writeIs(cells, reach, far, far * 5 % cells, items);
                }
            }
        }
    }

    private static void writeIs(int cells, int reach, int far, int at, int[] items) {
        RingWars x = ofCells(cells);
        x.physics(3, reach);
        Due.loaded(x, items);
        x.set(0, at);
        x.run(1);
        boolean does = far <= reach || cells - far <= reach;
        String call = "a write " + far + " on in " + cells + " cells, REACH " + reach;
        int to = (at + far) % cells;
        due.is(call, x.cell(to, 6) + " " + x.cell(to, 5), does ? "1 0" : "0 -5");
        if (!does) {
            due.is(call + ": the cell", Due.cell(x, to), EMPTY);
        }
        due.is(call + ": its thread", x.thread(0, 0), items[0] == JUMP ? at : (at + 1) % cells);
    }

    private static void reachIsFromTheOrder() {
        due.by("farther than REACH either way round from the ORDER that does it");
        // by way of cell 4, which is too far to write to, to the next one
        RingWars x = Due.with("copy .0 @4;die;die;die;add .0 .-3");
        x.physics(3, 1);
        x.set(0, 15);
        x.run(1);
        due.is("near again by way of a far one", Due.cell(x, 0), "1 0 0 1 4 0 1");
        // by way of the next one, to one that is next to that, but not to the order
        RingWars y = Due.with("copy .0 @1;add .0 .1");
        y.physics(3, 1);
        y.set(0, 15);
        y.run(1);
        due.is("far by way of a near one", Due.cell(y, 1), EMPTY);
        // A's place may be as far as it is
        RingWars z = Due.with("copy .8 .1;die;die;die;die;die;die;die");
        z.physics(3, 1);
        z.set(0, 0);
        z.run(1);
        due.is("what is read has no reach", Due.cell(z, 1), "0 4 0 4 0 0 1");
    }

    private static void physicsChange() {
        due.by("As PHYSICS change, THE RING is empty; FIGHTERS and THE IMAGE stay.");
        int[] others = {20, 50, 8, 2};
        for (int what = 0; what < 4; what++) {
            RingWars x = Due.with("copy .0 .20", "split @-99;die");
            x.set(0, 3);
            x.set(1, 12);
            x.run(3);
            x.image();
            String then = Due.war(x);
            x.clear();
            x.physics(what, others[what]);
            due.is("fighters", x.count(4), 2);
            due.is("an order", Due.order(x, 0, 0), "1 0 0 0 20");
            due.is("another's", Due.order(x, 1, 0), "6 1 -99 4 0");
            due.is("sides", x.count(5), 0);
            due.is("the last cell of now", Due.cell(x, x.count(0) - 1), EMPTY);
            due.is("a cell that was written", Due.cell(x, 7), EMPTY);
            x.physics(0, 16);
            due.is("the image", x.back(), 3);
            due.is("the war as it was", Due.war(x), then);
        }
        RingWars y = ofCells(16);
        due.is("physics as they are", y.physics(0, 16), 16);
        due.is("an empty ring", Due.cell(y, 15), EMPTY);
    }

    private static void modesFrom0To4() {
        due.by("each a MODE (0 .. 4) and a NUMBER");
        for (int mode = -1; mode <= 5; mode++) {
            boolean well = mode >= 0 && mode <= 4;
            RingWars x = new RingWars();
            due.is("A of MODE " + mode, Due.loaded(x, SKIP, mode, 1, 0, 1), well ? 0 : RingWars.BAD);
            due.is("B of MODE " + mode, Due.loaded(x, SKIP, 0, 1, mode, 1), well ? 1 : RingWars.BAD);
            if (well) {
                x.set(0, 15);
                x.set(1, 0);
                due.is("A in its cell", x.cell(15, 1), mode);
                due.is("B in its cell", x.cell(0, 3), mode);
            }
        }
    }

    private static void numbersAreRests() {
        due.by("a NUMBER (0 .. CELLS - 1; all numbers are taken modulo CELLS)");
        for (int cells = 8; cells <= 32; cells++) {
            for (int n = -99; n <= 99; n++) {
                RingWars x = ofCells(cells);
                Due.loaded(x, DIE, 0, n, 1, -n);
                x.set(0, cells - 1);
                due.is(n + " in " + cells + " cells", x.cell(cells - 1, 2), rest(n, cells));
                due.is(-n + " in " + cells + " cells", x.cell(cells - 1, 4), rest(-n, cells));
            }
        }
    }

    private static void numbersStayRests() {
        due.by("all numbers are taken modulo CELLS");
        for (int cells : SIZES) {
            int last = cells - 1;
            RingWars x = stepped(cells, 0, ADD, 4, 1, 0, 1, DIE, 4, last, 4, last);
            due.is("the greatest and 1", Due.cell(x, 1), "0 4 " + last + " 4 0 0 1");
            x = stepped(cells, 0, ADD, 4, -1, 0, 1, DIE, 4, 0, 4, 0);
            due.is("0 and -1", Due.cell(x, 1), "0 4 0 4 " + last + " 0 1");
            x = stepped(cells, 0, ADD, 4, 0, 0, 1, DIE, 4, 0, 4, last);
            due.is("the greatest and 0", x.cell(1, 4), last);
            x = stepped(cells, 0, ADD, 0, 1, 0, 2, DIE, 4, last, 4, 1, DIE, 4, last, 4, last);
            due.is("both numbers", Due.cell(x, 2), "0 4 " + (last - 1) + " 4 0 0 1");
            x = stepped(cells, 0, COPY, 4, -1, 0, 1);
            due.is("-1 that comes", x.cell(1, 4), last);
            x = stepped(cells, 0, COPY, 4, cells, 0, 1, DIE, 4, 0, 4, 3);
            due.is("CELLS that come", x.cell(1, 4), 0);
            x = stepped(cells, 0, IFZ, 0, 5, 4, cells);
            due.is("CELLS are 0", Due.threads(x, 0), "5");
            x = stepped(cells, 0, SKIP, 4, -1, 4, last);
            due.is("-1 is the greatest", Due.threads(x, 0), "2");
        }
    }

    private static void ownersOrNone() {
        due.by("an OWNER (the one in the war that wrote it last, or none)");
        RingWars x = Due.with("copy .2 .9;jump .0", "copy .2 .-1;jump .0");
        due.is("none at first", x.cell(8, 5), -5);
        x.set(0, 0);
        x.set(1, 8);
        due.is("the first's", x.cell(0, 5), 0);
        due.is("the second's", x.cell(8, 5), 1);
        due.is("nobody's", x.cell(7, 5), -5);
        x.run(1);
        due.is("the second's that the first wrote", x.cell(9, 5), 0);
        due.is("the second's next to it", x.cell(8, 5), 1);
        x.run(1);
        due.is("nobody's that the second wrote", x.cell(7, 5), 1);
        x.clear();
        x.set(0, 0);
        x.set(1, 1);
        due.is("the later one's", x.cell(1, 5), 1);
        due.is("the earlier one's", x.cell(0, 5), 0);
        // a step ahead of the place, and one behind it
        RingWars y = Due.with("jump <8", "jump >9", "die;die");
        y.set(0, 0);
        y.set(1, 0);
        y.set(2, 8);
        y.run(2);
        due.is("a number that was one less", y.cell(8, 5), 2);
        y.clear();
        y.set(0, 0);
        y.set(1, 1);
        y.set(2, 8);
        y.run(2);
        due.is("a number that became one less", y.cell(8, 5), 0);
        due.is("a number that stayed", y.cell(9, 5), 2);
        due.is("a number that became one more", y.cell(10, 5), 1);
    }

    private static void emptyCells() {
        due.by("An empty CELL: KIND 0, both MODES 4, NUMBERS 0, no OWNER.");
        for (int cells : SIZES) {
            RingWars x = ofCells(cells);
            for (int cell = 0; cell < cells; cell++) {
                due.is("cell " + cell + " of " + cells, Due.cell(x, cell), EMPTY);
            }
        }
        RingWars x = stepped(16, 0, COPY, 0, 5, 0, 1, ADD, 1, 1, 1, 1);
        due.is("its copy, with an owner", Due.cell(x, 1), "0 4 0 4 0 0 1");
        x = Due.with("jump .1");
        x.set(0, 15);
        due.is("a thread dies on it", x.run(9), 2);
        due.is("and nobody did it", x.died(0, 1), -5);
        due.is("all empty ones are alike", on(16, 0, "skip .7 .9"), "2");
        due.is("die is as an empty one", on(16, 0, "skip .1 .9;die"), "2");
        due.is("a die of other modes is not", Due.threads(stepped(16, 0, SKIP, 0, 1, 0, 9, DIE, 0, 0, 4, 0), 0), "1");
    }

    private static void mode0() {
        due.by("MODE 0: c and the NUMBER");
        for (int cells : SIZES) {
            for (int at = 0; at < cells; at++) {
                for (int n = 0; n < cells; n++) {
                    RingWars x = stepped(cells, at, JUMP, 0, n, 4, 0);
                    due.is("from " + at + " by " + n + " in " + cells, x.thread(0, 0), rest(at + n, cells));
                }
            }
        }
    }

    private static void modes1To3() {
        due.by("1: that CELL's place and the NUMBER B that it has; 2: likewise, but that NUMBER B is one less first; "
            + "3: likewise as 1, and that NUMBER B is one more as soon as the place is found");
        for (int mode = 1; mode <= 3; mode++) {
            for (int at = 0; at < 9; at++) {
                for (int n = 0; n < 9; n++) {
                    for (int b = 0; b < 9; b++) {
                        indirect(9, mode, at, n, b);
                    }
                }
            }
            for (int cells : SIZES) {
                indirect(cells, mode, cells - 1, 1, 0);
                indirect(cells, mode, cells - 1, 1, cells - 1);
                indirect(cells, mode, 0, cells - 1, 1);
                indirect(cells, mode, cells - 1, cells - 1, cells - 1);
                indirect(cells, mode, 0, 0, 0);
                indirect(cells, mode, 0, 0, cells - 1);
            }
        }
    }

    /** A jump by way of the n-th cell on, whose NUMBER B is b. */
    private static void indirect(int cells, int mode, int at, int n, int b) {
        RingWars x = ofCells(cells);
        Due.loaded(x, JUMP, mode, n, 4, n == 0 ? b : 0);
        Due.loaded(x, DIE, 4, 0, 4, b);
        int by = rest(at + n, cells);
        x.set(0, at);
        if (n != 0) {
            x.set(1, by);
        }
        x.run(1);
        String call = "MODE " + mode + " from " + at + " by " + n + " with " + b + " in " + cells;
        due.is(call, x.thread(0, 0), rest(by + b - (mode == 2 ? 1 : 0), cells));
        due.is(call + ": the number then", x.cell(by, 4), rest(b + (mode == 2 ? -1 : mode == 3 ? 1 : 0), cells));
        due.is(call + ": writes", x.cell(by, 6), mode == 1 ? 0 : 1);
    }

    private static void mode4() {
        due.by("4: c itself");
        for (int cells : SIZES) {
            for (int n = 0; n < cells; n++) {
                due.is("a jump", stepped(cells, n, JUMP, 4, n, 4, n).thread(0, 0), n);
                RingWars x = stepped(cells, n, COPY, 0, 1, 4, n, SPLIT, 1, 2, 3, 4);
                due.is("a copy to itself", Due.cell(x, n), "6 1 2 3 4 0 1");
            }
        }
    }

    private static void modesBeyondReach() {
        due.by("What 2 and 3 change are writes (of one that does nothing the NUMBER B stays, and the place of 2 is by that).");
        for (int far = 1; far < 16; far++) {
            for (int mode = 2; mode <= 3; mode++) {
                RingWars x = new RingWars();
                x.physics(3, 3);
                Due.loaded(x, JUMP, mode, far, 4, 0);
                Due.loaded(x, DIE, 4, 0, 4, 4);
                x.set(0, 10);
                int by = (10 + far) % 16;
                x.set(1, by);
                x.run(1);
                boolean does = far <= 3 || far >= 13;
                String call = "MODE " + mode + " by way of one " + far + " on";
                due.is(call, Due.cell(x, by), !does ? "0 4 0 4 4 1 0" : mode == 2 ? "0 4 0 4 3 0 1" : "0 4 0 4 5 0 1");
                due.is(call + ": the place", x.thread(0, 0), (by + (does && mode == 2 ? 3 : 4)) % 16);
            }
        }
    }

    private static void placesOfKindsThatUseNone() {
        due.by("Places of both ADDRESSES are found for all KINDS, whatever they use.");
        for (int kind = DIE; kind <= SPLIT; kind++) {
            RingWars x = stepped(16, 15, kind, 2, 1, 3, 2);
            due.is("A of KIND " + kind, Due.cell(x, 0), "0 4 0 4 15 0 1");
            // A's place is the ORDER itself: COPY brings it to B's, ADD its numbers
            String b = kind == COPY ? "1 2 1 3 2 0 2" : kind == ADD ? "0 4 1 4 3 0 2" : "0 4 0 4 1 0 1";
            due.is("B of KIND " + kind, Due.cell(x, 1), b);
        }
        due.is("the fighter of a die that writes is dead", stepped(16, 15, DIE, 2, 1, 3, 2).died(0, 0), 1);
    }

    private static void placesAsTheStepBegan() {
        due.by("PLACE of A is found first, then that of B (the ORDER's MODES and NUMBERS are those that it had as the STEP "
            + "began).");
        // A makes the number of cell 1 one less: B goes by that
        RingWars x = stepped(16, 0, COPY, 2, 1, 1, 1, DIE, 4, 0, 4, 5);
        due.is("A first", Due.cell(x, 5), "0 4 0 4 0 0 1");
        // A makes its own NUMBER B one more, from the last cell's round to 0; B is by the number that it had
        RingWars y = stepped(16, 0, COPY, 3, 0, 0, 15);
        due.is("its number", x.cell(1, 4), 4);
        due.is("its own number", Due.cell(y, 0), "1 3 0 0 0 0 1");
        due.is("B's place, by the number that it had", y.cell(15, 6), 1);
        // the number of A as it was, though B's place is A's own cell
        RingWars z = stepped(16, 3, SKIP, 4, 7, 2, 0);
        due.is("a number of its own that is one less", Due.cell(z, 3), "5 4 7 2 15 0 1");
        due.is("B's place by that: an empty one", Due.threads(z, 0), "4");
        RingWars w = stepped(16, 3, IFZ, 2, 0, 4, 1);
        due.is("B's NUMBER of MODE 4 as it was", Due.threads(w, 0), "4");
    }

    private static void theLastThreadDies() {
        due.by("DIE: the thread is dead.");
        RingWars x = Due.with("split .1;die");
        x.set(0, 15);
        x.run(2);
        due.is("one of two", Due.threads(x, 0), "0");
        due.is("it lives", x.died(0, 0), -5);
        x.run(1);
        due.is("the last", x.thread(0, -1), 0);
        due.is("it is dead", x.died(0, 0), 3);
        due.is("no threads, no first", x.thread(0, 0), RingWars.NONE);
    }

    private static void copies() {
        due.by("COPY: A of MODE 4: NUMBER B of B's PLACE becomes A's NUMBER; else the ORDER at A's PLACE (as it is then) comes "
            + "to B's.");
        due.is("a number to itself", Due.cell(stepped(8, 7, COPY, 4, 7, 4, 3), 7), "1 4 7 4 7 0 1");
        due.is("0", Due.cell(stepped(8, 7, COPY, 4, 0, 0, 1), 0), "0 4 0 4 0 0 1");
        due.is("the greatest", Due.cell(stepped(8, 7, COPY, 4, 7, 0, 1), 0), "0 4 0 4 7 0 1");
        due.is("to itself", Due.cell(stepped(8, 7, COPY, 0, 0, 0, 8), 7), "1 0 0 0 0 0 1");
        due.is("from the last to the first", Due.cell(stepped(8, 7, COPY, 0, 0, 0, 1), 0), "1 0 0 0 1 0 1");
        due.is("as it is then", Due.cell(stepped(8, 7, COPY, 3, 1, 0, 2, SPLIT, 0, 3, 1, 0), 1), "6 0 3 1 1 0 1");
        due.is("as it is then, one less", Due.cell(stepped(8, 7, COPY, 0, 1, 2, 1, SPLIT, 0, 3, 1, 0), 7),
            "6 0 3 1 7 0 1");
    }

    private static void adds() {
        due.by("ADD: likewise, but A's NUMBER is added to NUMBER B; else both NUMBERS of A's PLACE to those of B's.");
        due.is("to its own number", Due.cell(stepped(8, 7, ADD, 4, 7, 4, 3), 7), "2 4 7 4 2 0 1");
        due.is("nothing", Due.cell(stepped(8, 7, ADD, 4, 0, 0, 1), 0), "0 4 0 4 0 0 1");
        due.is("an empty one's", Due.cell(stepped(8, 7, ADD, 0, 3, 0, 1, DIE, 0, 7, 1, 7), 0), "0 0 7 1 7 0 1");
        due.is("to itself", Due.cell(stepped(8, 7, ADD, 0, 1, 0, 1, DIE, 0, 4, 1, 7), 0), "0 0 0 1 6 0 1");
        due.is("round the ring", Due.cell(stepped(8, 7, ADD, 0, 0, 0, 9, DIE, 2, 1, 3, 7), 0), "0 2 1 3 0 0 1");
        due.is("as it is then", Due.cell(stepped(8, 7, ADD, 3, 1, 0, 2, DIE, 0, 7, 1, 0, DIE, 0, 2, 0, 7), 1),
            "0 0 1 0 0 0 1");
    }

    private static void jumps() {
        due.by("JUMP: on at A's PLACE (of MODE 4: c).");
        due.is("of MODE 4", on(8, 7, "jump #5"), "7");
        due.is("to itself", on(8, 7, "jump .0"), "7");
        due.is("round the ring", on(8, 7, "jump .7"), "6");
        due.is("by way of itself", Due.threads(stepped(8, 7, JUMP, 1, 0, 4, 3), 0), "2");
    }

    private static void zeros() {
        due.by("IFZ: so, if NUMBER B of B's PLACE (of MODE 4: B's NUMBER) is 0; else on at c and 1.");
        due.is("0", on(8, 7, "ifz .3 #0"), "2");
        due.is("1", on(8, 7, "ifz .3 #1"), "0");
        due.is("-1", on(8, 7, "ifz .3 #-1"), "0");
        due.is("0 by way round", on(8, 7, "ifz .3 #-8"), "2");
        due.is("A of MODE 4", on(8, 7, "ifz #3 #0"), "7");
        due.is("an empty one's", on(8, 7, "ifz .3 .5"), "2");
        due.is("its own, by way round", on(8, 7, "ifz .3 .8"), "2");
        due.is("another's", on(8, 7, "ifz .3 .1;copy .0 .1"), "0");
        due.is("another's, 0", on(8, 7, "ifz .3 .1;copy .1 .8"), "2");
        due.is("one less to 0", on(8, 7, "ifz .3 <1;copy .0 .1"), "2");
        due.is("its own, by way of one that is 0 behind it", on(8, 7, "ifz .3 >1;copy .0 .-1"), "0");
    }

    private static void skips() {
        due.by("SKIP: on at c and 2, if A's NUMBER (MODE 4) is NUMBER B of B's PLACE; of other MODES if both ORDERS are alike "
            + "(KIND, MODES, NUMBERS); else at c and 1.");
        due.is("0 and an empty one's", on(8, 7, "skip #0 .3"), "1");
        due.is("1 and an empty one's", on(8, 7, "skip #1 .3"), "0");
        due.is("8 and an empty one's", on(8, 6, "skip #8 .3"), "0");
        due.is("its own number", on(8, 6, "skip #3 #3"), "0");
        due.is("one with itself", on(8, 6, "skip .0 .8"), "0");
        due.is("one with itself by MODE 4 of B", on(8, 6, "skip .0 #5"), "0");
        due.is("itself and another", on(8, 6, "skip .0 .1"), "7");
        due.is("alike by rests", on(8, 6, "skip .1 .2;jump .-1;jump .7"), "0");
        for (int item = 0; item < 5; item++) {
            for (int more = 0; more <= 1; more++) {
                int[] items = {SKIP, 0, 1, 0, 2, ADD, 2, 3, 1, 4, ADD, 2, 3, 1, 4};
                items[10 + item] += more;
                due.is("item " + item + " more by " + more, Due.threads(stepped(8, 6, items), 0), more == 0 ? "0" : "7");
            }
        }
    }

    private static void splitsAtMost() {
        due.by("SPLIT: on at c and 1, and a new thread at A's PLACE behind all others of its own, if there are fewer than MOST "
            + "(else none).");
        for (int most = 1; most <= 8; most++) {
            RingWars x = Due.with("split .9;split .9;split .9;split .9;split .9;split .9;split .9;split .9");
            x.physics(0, 32);
            x.physics(2, most);
            x.set(0, 30);
            x.run(1);
            due.is("MOST " + most, Due.threads(x, 0), most == 1 ? "31" : "31 7");
            due.is("none is dead", x.died(0, 0), -5);
        }
        RingWars x = Due.with("split .0;split .0;split .0;split .0");
        x.physics(2, 2);
        x.set(0, 6);
        x.run(1);
        due.is("two", Due.threads(x, 0), "7 6");
        x.run(1);
        due.is("no third", Due.threads(x, 0), "6 8");
        due.is("of MODE 4: c", on(8, 7, "split #5"), "0 7");
    }

    private static void withoutAWord() {
        due.by("Without a word: on at c and 1.");
        String[] texts = {"copy .0 .1", "copy #1 #1", "add .0 .1", "add #1 #1", "copy .0 .8"};
        for (int cells : SIZES) {
            for (String text : texts) {
                due.is(text + " at the last of " + cells, on(cells, cells - 1, text), "0");
                due.is(text + " at the first of " + cells, on(cells, 0, text), "1");
            }
        }
        RingWars x = Due.with("copy .0 .4");
        x.physics(3, 1);
        x.set(0, 15);
        x.run(1);
        due.is("behind a write that does nothing, too", Due.threads(x, 0), "0");
    }

    private static void threadsQueue() {
        due.by("A thread that is on comes behind all others of its own (with SPLIT: ahead of the new one).");
        RingWars x = Due.with("split .4;split .4;jump .0;die;jump .0;jump .0");
        x.set(0, 7);
        String[] want = {"8 11", "11 9 12", "9 12 11", "12 11 9", "11 9 12"};
        for (String threads : want) {
            x.run(1);
            due.is("threads", Due.threads(x, 0), threads);
        }
    }
}
