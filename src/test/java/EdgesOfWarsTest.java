/** The document's chapter 3, and promises 7 to 13: each sentence that names an edge, with a test of its own. */
public final class EdgesOfWarsTest {
    private static final String EMPTY = "0 4 0 4 0 -5 0";
    private static final int[] SIZES = {8, 9, 15, 16, 31, 32};
    private static final int[] EXTREMES = {Integer.MIN_VALUE, Integer.MAX_VALUE, -99, 99};
    private static final Due due = new Due();

    public static void main(String[] args) {
        fourSides();
        setDownAcrossTheLastCell();
        wholeRings();
        nextSides();
        oneSideIsOver();
        severalSidesAreOver();
        overAtTheLimit();
        deathsFromTurn1ToTheLimit();
        killersOrNone();
        heatOfAllWrites();
        heatOfNone();
        withoutSides();
        clearsOfNoneToFour();
        setsOfNoSuchNumber();
        setsBehindATurn();
        runsOfOneTo150();
        runsOfNoWar();
        cellsOfNoSuchNumber();
        threadsOfNoSuchNumber();
        deathsOfNoSuchNumber();
        statesOfNoSuchNumber();
        greatestHeat();
        threadsAsBits();
        due.end();
    }

    private static void fourSides() {
        due.by("THE WAR that is set: up to 4, as they come (SIDES 0 .. 3)");
        RingWars x = Due.with("jump .0", "die");
        for (int side = 0; side < 4; side++) {
            due.is("no side " + side + " yet", x.thread(side, -1), RingWars.NONE);
            due.is("side " + side, x.set(side % 2, 3 * side), side);
            due.is("sides", x.count(5), side + 1);
        }
        due.is("no fifth", x.set(0, 15), RingWars.FULL);
        due.is("no side 4", x.thread(4, -1), RingWars.NONE);
        due.is("where the fifth would be", Due.cell(x, 15), EMPTY);
    }

    private static void setDownAcrossTheLastCell() {
        due.by("each a FIGHTER whose ORDERS are set down from a CELL on (their OWNER it is then), with one thread on the first");
        for (int cells : SIZES) {
            for (int length = 1; length <= 8; length++) {
                for (int at = cells - length; at < cells; at++) {
                    setDown(cells, length, at);
                }
            }
        }
    }

    private static void setDown(int cells, int length, int at) {
        StringBuilder text = new StringBuilder("add #1 #0");
        for (int i = 1; i < length; i++) {
            text.append(";add #1 #").append(i);
        }
        RingWars x = Due.with(text.toString());
        x.physics(0, cells);
        due.is("set(0, " + at + ")", x.set(0, at), 0);
        due.is("its thread", Due.threads(x, 0), "" + at);
        for (int i = 0; i < length; i++) {
            due.is("order " + i + " of " + length + " from " + at + " on in " + cells, Due.cell(x, (at + i) % cells),
                "2 4 1 4 " + i + " 0 0");
        }
        if (length < cells) {
            due.is("the cell behind", Due.cell(x, (at + length) % cells), EMPTY);
            due.is("the cell ahead", Due.cell(x, (at + cells - 1) % cells), EMPTY);
        }
    }

    private static void wholeRings() {
        due.by("their OWNER it is then");
        RingWars x = Due.with("jump .0;jump .1;jump .2;jump .3;jump .4;jump .5;jump .6;jump .7", "die;die");
        x.physics(0, 8);
        x.set(0, 6);
        due.is("all eight", Due.cell(x, 5), "3 0 7 4 0 0 0");
        x.set(1, 7);
        x.set(1, 0);
        int[] owners = {2, 2, 0, 0, 0, 0, 0, 1};
        for (int cell = 0; cell < 8; cell++) {
            due.is("the owner of " + cell, x.cell(cell, 5), owners[cell]);
        }
        due.is("threads stay", Due.threads(x, 0) + " " + Due.threads(x, 1) + " " + Due.threads(x, 2), "6 7 0");
    }

    private static void nextSides() {
        due.by("A TURN: the next SIDE by numbers (0 behind the last) that has a thread does one STEP of its first one.");
        RingWars x = Due.with("jump .0", "die", "jump .1;die");
        x.set(2, 0);
        x.set(1, 3);
        x.set(2, 6);
        x.set(0, 9);
        // turn by turn: who has threads behind it
        int[] bits = {15, 13, 13, 13, 12, 8};
        for (int turn = 0; turn < bits.length; turn++) {
            due.is("turn " + (turn + 1), x.run(1), 1);
            due.is("who has threads", x.state(3), bits[turn]);
        }
        due.is("the first died in turn", x.died(0, 0), 5);
        due.is("the second", x.died(1, 0), 2);
        due.is("the third, ahead of the fourth's second turn", x.died(2, 0), 6);
        RingWars y = Due.with("jump .1;jump .1;jump .1;jump .1", "die");
        y.set(1, 0);
        y.set(0, 2);
        y.set(0, 8);
        y.run(1 + 2 + 2);
        due.is("0 is left out: side 1 behind the last", Due.threads(y, 1) + " " + Due.threads(y, 2), "4 10");
        y.run(1);
        due.is("and again", Due.threads(y, 1) + " " + Due.threads(y, 2), "5 10");
        RingWars z = Due.with("split .0;jump .0");
        z.set(0, 3);
        z.run(2);
        due.is("the first of its threads", Due.threads(z, 0), "3 4");
    }

    private static void oneSideIsOver() {
        due.by("(of one SIDE: none)");
        RingWars x = Due.with("jump .1;die");
        x.set(0, 15);
        due.is("at first", x.state(1), 0);
        x.run(1);
        due.is("with a thread", x.state(1), 0);
        x.run(1);
        due.is("without", x.state(1), 1);
        due.is("no turn more", x.run(1), RingWars.STATE);
        due.is("turns", x.state(0), 2);
    }

    private static void severalSidesAreOver() {
        due.by("It is OVER when no more than one SIDE of several has threads");
        for (int sides = 2; sides <= 4; sides++) {
            RingWars x = Due.with("die", "jump .0");
            for (int side = 0; side < sides; side++) {
                x.set(side == sides - 1 ? 1 : 0, side * 4);
            }
            for (int turn = 1; turn < sides; turn++) {
                due.is("not over ahead of turn " + turn + " of " + sides, x.state(1), 0);
                x.run(1);
            }
            due.is("over with one of " + sides, x.state(1), 1);
            due.is("it lives", x.thread(sides - 1, -1), 1);
            due.is("no turn more", x.run(150), RingWars.STATE);
        }
        RingWars y = Due.with("die");
        y.set(0, 0);
        y.set(0, 8);
        due.is("the first is dead: the second is left", y.run(150), 1);
        due.is("it would have died", y.died(1, 0), -5);
    }

    private static void overAtTheLimit() {
        due.by("or LIMIT turns are done");
        int[] limits = {1, 2, 149, 150};
        for (int limit : limits) {
            RingWars x = Due.with("jump .0");
            x.physics(1, limit);
            x.set(0, 0);
            x.set(0, 5);
            if (limit > 1) {
                due.is("all but one of " + limit, x.run(limit - 1), limit - 1);
                due.is("not over", x.state(1), 0);
            }
            due.is("the last of " + limit, x.run(150), 1);
            due.is("over", x.state(1), 1);
            due.is("both live", x.state(3), 3);
        }
        // an image of more turns than LIMIT is by now
        for (int limit = 8; limit <= 11; limit++) {
            RingWars x = Due.with("jump .0");
            x.set(0, 0);
            x.run(9);
            x.image();
            x.clear();
            x.physics(1, limit);
            due.is("turns", x.back(), 9);
            due.is("over with LIMIT " + limit, x.state(1), limit <= 9 ? 1 : 0);
            due.is("turns more", x.run(150), limit <= 9 ? RingWars.STATE : limit - 9);
        }
    }

    private static void deathsFromTurn1ToTheLimit() {
        due.by("DIED: a SIDE whose last thread is dead: in which turn (from 1 on)");
        RingWars x = Due.with("die");
        x.set(0, 0);
        x.run(1);
        due.is("in turn 1", x.died(0, 0), 1);
        RingWars y = Due.with("jump .1;jump .1;jump .1;die", "jump .0");
        y.physics(1, 7);
        y.set(0, 0);
        y.set(1, 8);
        due.is("turns", y.run(150), 7);
        due.is("in turn LIMIT", y.died(0, 0), 7);
        y.clear();
        y.physics(1, 6);
        y.set(0, 0);
        y.set(1, 8);
        due.is("turns", y.run(150), 6);
        due.is("not behind it", y.died(0, 0), -5);
        RingWars z = Due.with("split .2;die;die");
        z.set(0, 14);
        z.run(150);
        due.is("its last thread", z.died(0, 0), 3);
    }

    private static void killersOrNone() {
        due.by("and KILLER: the OWNER that the CELL on which that died had as that STEP began (-5: none, or still alive)");
        RingWars x = Due.with("copy .2 .9;jump .0;die", "jump .1;jump .0", "jump .9", "die");
        x.set(0, 0);
        x.set(1, 8);
        x.run(3);
        due.is("still alive", x.died(1, 1), -5);
        x.run(1);
        due.is("the one that wrote it", x.died(1, 1), 0);
        due.is("who is still alive himself", x.died(0, 1), -5);
        x.clear();
        x.set(2, 15);
        x.run(2);
        due.is("on nobody's cell", x.died(0, 1), -5);
        due.is("dead all the same", x.died(0, 0), 2);
        x.clear();
        x.set(2, 15);
        x.set(1, 0);
        x.set(3, 8);
        x.run(4);
        due.is("on its own", x.died(2, 1), 2);
        due.is("on one that another set down", x.died(0, 1), 2);
        RingWars y = Due.with("split .8;die", "split .8;jump .1;die");
        y.set(0, 0);
        due.is("turns", y.run(9), 3);
        due.is("its last thread died on nobody's", y.died(0, 1), -5);
        y.clear();
        y.set(1, 0);
        due.is("turns", y.run(9), 4);
        due.is("its last thread died on its own", y.died(0, 1), 0);
    }

    private static void heatOfAllWrites() {
        due.by("how many writes came to it in THE WAR (COPY and ADD do one each, whatever they change; setting down is none; "
            + "writes that do nothing are none)");
        RingWars x = new RingWars();
        x.physics(1, 150);
        Due.loaded(x, 3, 0, 0, 3, 1);
        x.set(0, 15);
        x.run(150);
        due.is("150 writes", x.cell(0, 6), 150);
        due.is("its number is a rest", x.cell(0, 4), 150 % 16);
        // A one less, B one more, and the copy itself to the same cell
        RingWars y = new RingWars();
        Due.loaded(y, 1, 2, 1, 3, 1, 0, 4, 0, 4, 1);
        y.set(0, 15);
        y.run(1);
        due.is("three in one turn", y.cell(0, 6), 3);
        RingWars z = Due.with("copy .0 .0", "add #0 .0");
        z.set(0, 0);
        z.set(1, 8);
        z.run(2);
        due.is("a copy that changes nothing", z.cell(0, 6), 1);
        due.is("an add that changes nothing", z.cell(8, 6), 1);
        z.clear();
        due.is("none in a war anew", z.cell(0, 6), 0);
        z.set(0, 0);
        z.set(1, 0);
        due.is("setting down is none", z.cell(0, 6), 0);
    }

    private static void heatOfNone() {
        due.by("writes that do nothing are none");
        RingWars x = new RingWars();
        x.physics(3, 1);
        Due.loaded(x, 1, 2, 2, 3, 2, 2, 0, 0, 0, 3, 2, 4, 1, 0, -4, 3, 0, 0, 3, 4);
        x.set(0, 5);
        x.run(20);
        for (int cell = 0; cell < 16; cell++) {
            due.is("heat of " + cell, x.cell(cell, 6), 0);
        }
        due.is("the greatest", x.state(2), 0);
    }

    private static void withoutSides() {
        due.by("Without SIDES THE WAR is OVER.");
        RingWars x = Due.with("jump .0");
        due.is("at first", x.state(1), 1);
        due.is("no turn", x.run(1), RingWars.STATE);
        x.set(0, 0);
        due.is("with one", x.state(1), 0);
        x.clear();
        due.is("cleared", x.state(1), 1);
        due.is("no turn then", x.run(1), RingWars.STATE);
        x.image();
        x.set(0, 0);
        x.back();
        due.is("back to none", x.state(1), 1);
        due.is("turns", x.state(0), 0);
        due.is("the hottest", x.state(2), 0);
        due.is("who has threads", x.state(3), 0);
    }

    private static void clearsOfNoneToFour() {
        due.by("THE WAR has no SIDES, THE RING is empty: how many there were.");
        for (int cells : SIZES) {
            for (int sides = 0; sides <= 4; sides++) {
                RingWars x = Due.with("split >0;copy .0 .1;add .0 .7");
                x.physics(0, cells);
                String empty = Due.war(x);
                for (int side = 0; side < sides; side++) {
                    x.set(0, cells - 1 - side);
                }
                x.run(15);
                due.is("clear() of " + sides, x.clear(), sides);
                due.is("all of it", Due.war(x), empty);
                due.is("clear() again", x.clear(), 0);
                due.is("set() anew", x.set(0, cells - 1), 0);
            }
        }
    }

    private static void setsOfNoSuchNumber() {
        due.by("A FIGHTER is set down: its SIDE. NONE: fighter, cell");
        for (int cells : SIZES) {
            RingWars x = Due.with("jump .0", "jump .0");
            x.physics(0, cells);
            due.is("fighter -1", x.set(-1, 0), RingWars.NONE);
            due.is("fighter 2 of two", x.set(2, 0), RingWars.NONE);
            due.is("cell -1", x.set(0, -1), RingWars.NONE);
            due.is("one cell too many", x.set(0, cells), RingWars.NONE);
            for (int n : EXTREMES) {
                due.is("set(" + n + ", 0)", x.set(n, 0), RingWars.NONE);
                due.is("set(0, " + n + ")", x.set(0, n), RingWars.NONE);
            }
            due.is("sides", x.count(5), 0);
            due.is("the first of each", x.set(0, 0), 0);
            due.is("the last of each", x.set(1, cells - 1), 1);
        }
        due.is("no fighters", new RingWars().set(0, 0), RingWars.NONE);
    }

    private static void setsBehindATurn() {
        due.by("NONE: fighter, cell; STATE: turns were done; FULL.");
        RingWars x = Due.with("jump .0", "die");
        x.set(0, 0);
        x.run(1);
        due.is("behind a turn", x.set(0, 1), RingWars.STATE);
        due.is("no such fighter, behind a turn", x.set(2, 1), RingWars.NONE);
        due.is("no such cell, behind a turn", x.set(0, 16), RingWars.NONE);
        x.clear();
        x.set(1, 0);
        x.run(1);
        due.is("over, too", x.set(0, 1), RingWars.STATE);
        x.clear();
        for (int side = 0; side < 4; side++) {
            due.is("anew", x.set(0, side), side);
        }
        due.is("full", x.set(0, 4), RingWars.FULL);
        due.is("no such fighter when full", x.set(-1, 4), RingWars.NONE);
        due.is("no such cell when full", x.set(0, -1), RingWars.NONE);
        x.run(1);
        due.is("full, behind a turn", x.set(0, 4), RingWars.STATE);
    }

    private static void runsOfOneTo150() {
        due.by("n turns (1 .. 150), or till it is OVER: how many were done. BAD; STATE: there are no SIDES, or it is OVER.");
        RingWars x = Due.with("jump .0", "die");
        x.physics(1, 150);
        int[] wrong = {0, -1, 151, -150, Integer.MIN_VALUE, Integer.MAX_VALUE};
        for (int n : wrong) {
            due.is("run(" + n + ") without sides", x.run(n), RingWars.BAD);
        }
        x.set(0, 0);
        for (int n : wrong) {
            due.is("run(" + n + ")", x.run(n), RingWars.BAD);
        }
        due.is("turns", x.state(0), 0);
        due.is("run(150)", x.run(150), 150);
        for (int n : wrong) {
            due.is("run(" + n + ") when over", x.run(n), RingWars.BAD);
        }
        x.clear();
        x.set(0, 0);
        due.is("run(1)", x.run(1), 1);
        due.is("run(148)", x.run(148), 148);
        due.is("run(2) with one left", x.run(2), 1);
        x.clear();
        x.set(1, 0);
        due.is("till it is over", x.run(150), 1);
    }

    private static void runsOfNoWar() {
        due.by("STATE: there are no SIDES, or it is OVER.");
        RingWars x = Due.with("jump .0", "die");
        due.is("no sides", x.run(150), RingWars.STATE);
        x.set(1, 0);
        x.run(1);
        due.is("one that is dead", x.run(1), RingWars.STATE);
        x.clear();
        x.set(1, 0);
        x.set(0, 1);
        x.run(1);
        due.is("one of two that is left", x.run(1), RingWars.STATE);
        x.clear();
        x.physics(1, 1);
        x.set(0, 0);
        x.run(1);
        due.is("at its LIMIT", x.run(1), RingWars.STATE);
        due.is("turns", x.state(0), 1);
    }

    private static void cellsOfNoSuchNumber() {
        due.by("5 OWNER (-5: none), 6 HEAT. NONE: cell, what.");
        for (int cells : SIZES) {
            RingWars x = new RingWars();
            x.physics(0, cells);
            due.is("the first cell", Due.cell(x, 0), EMPTY);
            due.is("the last cell", Due.cell(x, cells - 1), EMPTY);
            for (int what = 0; what <= 6; what++) {
                due.is("cell(-1, " + what + ")", x.cell(-1, what), RingWars.NONE);
                due.is("cell(" + cells + ", " + what + ")", x.cell(cells, what), RingWars.NONE);
            }
            due.is("what -1", x.cell(0, -1), RingWars.NONE);
            due.is("what 7", x.cell(0, 7), RingWars.NONE);
            for (int n : EXTREMES) {
                due.is("cell(" + n + ", 0)", x.cell(n, 0), RingWars.NONE);
                due.is("cell(0, " + n + ")", x.cell(0, n), RingWars.NONE);
            }
        }
    }

    private static void threadsOfNoSuchNumber() {
        due.by("Of a SIDE: how many threads (i -1), where the i-th is (the one that is next first). NONE: side, i.");
        RingWars x = Due.with("split .1;split .1;split .1;split .1;split .1;split .1;split .1;jump .0");
        x.physics(2, 8);
        x.set(0, 12);
        due.is("one", x.thread(0, -1), 1);
        due.is("the first", x.thread(0, 0), 12);
        due.is("no second", x.thread(0, 1), RingWars.NONE);
        x.run(100);
        due.is("eight", x.thread(0, -1), 8);
        for (int i = 0; i < 8; i++) {
            due.is("one of them", x.thread(0, i) >= 0 && x.thread(0, i) < 16 ? 1 : 0, 1);
        }
        due.is("no ninth", x.thread(0, 8), RingWars.NONE);
        due.is("i -2", x.thread(0, -2), RingWars.NONE);
        due.is("side 1", x.thread(1, -1), RingWars.NONE);
        due.is("side -1", x.thread(-1, -1), RingWars.NONE);
        due.is("side 4", x.thread(4, 0), RingWars.NONE);
        for (int n : EXTREMES) {
            due.is("thread(" + n + ", -1)", x.thread(n, -1), RingWars.NONE);
            due.is("thread(0, " + n + ")", x.thread(0, n), RingWars.NONE);
        }
        RingWars y = Due.with("die");
        y.set(0, 5);
        y.run(1);
        due.is("none", y.thread(0, -1), 0);
        due.is("no first", y.thread(0, 0), RingWars.NONE);
    }

    private static void deathsOfNoSuchNumber() {
        due.by("Of a SIDE: what 0 the turn in which it DIED (-5: it lives), 1 its KILLER (-5). NONE.");
        RingWars x = Due.with("jump .0");
        due.is("without sides", x.died(0, 0), RingWars.NONE);
        x.set(0, 0);
        due.is("it lives", x.died(0, 0), -5);
        due.is("nobody", x.died(0, 1), -5);
        due.is("side 1", x.died(1, 0), RingWars.NONE);
        due.is("side -1", x.died(-1, 1), RingWars.NONE);
        due.is("what -1", x.died(0, -1), RingWars.NONE);
        due.is("what 2", x.died(0, 2), RingWars.NONE);
        for (int n : EXTREMES) {
            due.is("died(" + n + ", 0)", x.died(n, 0), RingWars.NONE);
            due.is("died(0, " + n + ")", x.died(0, n), RingWars.NONE);
        }
    }

    private static void statesOfNoSuchNumber() {
        due.by("What 0 turns done, 1 whether it is OVER, 2 the CELL of the greatest HEAT (of several the least), 3 who has "
            + "threads, as bits. NONE.");
        RingWars x = Due.with("jump .0");
        int[] first = {0, 1, 0, 0};
        for (int what = 0; what < 4; what++) {
            due.is("state(" + what + ") at first", x.state(what), first[what]);
        }
        x.set(0, 0);
        x.run(150);
        int[] last = {100, 1, 0, 1};
        for (int what = 0; what < 4; what++) {
            due.is("state(" + what + ") at last", x.state(what), last[what]);
        }
        due.is("state(-1)", x.state(-1), RingWars.NONE);
        due.is("state(4)", x.state(4), RingWars.NONE);
        for (int n : EXTREMES) {
            due.is("state(" + n + ")", x.state(n), RingWars.NONE);
        }
    }

    private static void greatestHeat() {
        due.by("the CELL of the greatest HEAT (of several the least)");
        for (int cells : SIZES) {
            RingWars x = Due.with("add #1 .0;jump .0", "add #1 .-1;jump .0");
            x.physics(0, cells);
            for (int at = 0; at < cells; at++) {
                x.clear();
                x.set(0, at);
                x.run(1);
                due.is("one alone at " + at, x.state(2), at);
                x.clear();
                x.set(1, at);
                x.set(0, (at + cells / 2) % cells);
                x.run(2);
                due.is("the least of two", x.state(2), Math.min((at + cells - 1) % cells, (at + cells / 2) % cells));
            }
        }
        // the last cell has two writes, the first one
        RingWars y = Due.with("add #1 .-1;add #1 .-2;add #1 .-2");
        y.set(0, 0);
        y.run(3);
        due.is("the greatest, not the least cell", y.state(2), 15);
    }

    private static void threadsAsBits() {
        due.by("3 who has threads, as bits");
        for (int bits = 0; bits < 16; bits++) {
            RingWars x = Due.with("die", "jump .0");
            for (int side = 0; side < 4; side++) {
                x.set(bits >> side & 1, side * 4);
            }
            due.is("all of them", x.state(3), 15);
            x.run(4);
            int left = bits;
            if (Integer.bitCount(bits) == 0) {
                left = 8;
            }
            due.is("those that don't die", x.state(3), left);
        }
    }
}
