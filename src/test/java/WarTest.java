/** Promises 7 to 13: clear, set, run, cell, thread, died, state; and a step of every KIND and MODE. */
public final class WarTest {
    private static final String EMPTY = "0 4 0 4 0 -5 0";
    private static final Due due = new Due();

    public static void main(String[] args) {
        promise7();
        promise8();
        promise8Refusals();
        promise9();
        promise9Over();
        promise10();
        promise11();
        promise12();
        promise12OwnerAsTheStepBegan();
        promise13();
        modes();
        ordersAsTheStepBegan();
        reach();
        reachOfModes();
        copies();
        adds();
        jumps();
        zeros();
        skips();
        splits();
        placesOfAllKinds();
        turnsGoRound();
        due.end();
    }

    /** A new object in whose war one fighter is set down at 0 and has done one turn. */
    private static RingWars stepped(String text) {
        RingWars x = Due.with(text);
        x.set(0, 0);
        due.is("a turn of " + text, x.run(1), 1);
        return x;
    }

    private static void promise7() {
        RingWars x = Due.with("copy .0 .1");
        due.is("clear() of no war", x.clear(), 0);
        x.set(0, 5);
        x.set(0, 9);
        x.run(7);
        due.is("clear()", x.clear(), 2);
        due.is("clear() again", x.clear(), 0);
        due.is("sides", x.count(5), 0);
        due.is("turns", x.state(0), 0);
        due.is("over", x.state(1), 1);
        due.is("heat", x.state(2), 0);
        for (int cell = 0; cell < 16; cell++) {
            due.is("cell " + cell, Due.cell(x, cell), EMPTY);
        }
        due.is("set() goes again", x.set(0, 3), 0);
        x.run(1);
        due.is("side 0 is first again", Due.cell(x, 4), "1 0 0 0 1 0 1");
    }

    private static void promise8() {
        RingWars x = Due.with("copy .-1 <20;jump @-99;die");
        due.is("set(0, 14)", x.set(0, 14), 0);
        due.is("cell 14", Due.cell(x, 14), "1 0 15 2 4 0 0");
        due.is("cell 15", Due.cell(x, 15), "3 1 13 4 0 0 0");
        due.is("cell 0, round the ring", Due.cell(x, 0), "0 4 0 4 0 0 0");
        due.is("cell 1", Due.cell(x, 1), EMPTY);
        due.is("its thread", Due.threads(x, 0), "14");
        due.is("set(0, 15) over it", x.set(0, 15), 1);
        due.is("cell 15 is the later one's", Due.cell(x, 15), "1 0 15 2 4 1 0");
        due.is("cell 14 stays", Due.cell(x, 14), "1 0 15 2 4 0 0");
        due.is("its thread", Due.threads(x, 1), "15");
        due.is("the first thread stays", Due.threads(x, 0), "14");
        due.is("not over", x.state(1), 0);
        RingWars y = new RingWars();
        y.physics(0, 8);
        Due.fighter(y, "die;die;die;die;die;die;die;jump .-12");
        due.is("eight orders in eight cells", y.set(0, 5), 0);
        due.is("the eighth", Due.cell(y, 4), "3 0 4 4 0 0 0");
        due.is("the fourth", Due.cell(y, 0), "0 4 0 4 0 0 0");
    }

    private static void promise8Refusals() {
        RingWars x = Due.with("jump .0");
        due.is("set(1, 0)", x.set(1, 0), -1);
        due.is("set(-1, 0)", x.set(-1, 0), -1);
        due.is("set(0, 16)", x.set(0, 16), -1);
        due.is("set(0, -1)", x.set(0, -1), -1);
        for (int side = 0; side < 4; side++) {
            due.is("side " + side, x.set(0, 4 * side), side);
        }
        due.is("a fifth", x.set(0, 1), -4);
        due.is("NONE ahead of FULL", x.set(0, 16), -1);
        due.is("sides", x.count(5), 4);
        x.run(1);
        due.is("STATE ahead of FULL", x.set(0, 1), -3);
        due.is("NONE ahead of STATE", x.set(1, 1), -1);
        x.clear();
        due.is("set again", x.set(0, 1), 0);
    }

    private static void promise9() {
        RingWars x = Due.with("jump .0");
        due.is("run(1) without sides", x.run(1), -3);
        due.is("run(0) without sides", x.run(0), -2);
        x.set(0, 0);
        due.is("run(0)", x.run(0), -2);
        due.is("run(151)", x.run(151), -2);
        due.is("run(-1)", x.run(-1), -2);
        due.is("turns", x.state(0), 0);
        due.is("run(1)", x.run(1), 1);
        due.is("run(150) till LIMIT", x.run(150), 99);
        due.is("run(1) when over", x.run(1), -3);
        due.is("run(151) when over", x.run(151), -2);
        RingWars y = Due.with("jump .0");
        y.physics(1, 150);
        y.set(0, 0);
        due.is("run(150) of 150", y.run(150), 150);
        due.is("over", y.state(1), 1);
        RingWars z = Due.with("jump .0");
        z.physics(1, 1);
        z.set(0, 0);
        due.is("run(2) of 1", z.run(2), 1);
    }

    private static void promise9Over() {
        RingWars x = Due.with("die", "jump .0");
        x.set(0, 0);
        due.is("one side: till none has threads", x.run(9), 1);
        due.is("over", x.state(1), 1);
        x.clear();
        x.set(1, 4);
        x.set(0, 8);
        due.is("two sides: till one is left", x.run(9), 2);
        due.is("over of two", x.state(1), 1);
        x.clear();
        x.set(0, 0);
        x.set(1, 4);
        x.set(1, 8);
        due.is("three sides: on with two", x.run(9), 9);
        due.is("not over", x.state(1), 0);
        due.is("bits", x.state(3), 6);
        x.clear();
        x.set(0, 0);
        x.set(0, 4);
        x.set(0, 8);
        due.is("three that die: the last is left", x.run(9), 2);
        due.is("bits of it", x.state(3), 4);
    }

    private static void promise10() {
        RingWars x = Due.with("add <3 >-2");
        x.set(0, 15);
        due.is("cell(15, ..)", Due.cell(x, 15), "2 2 3 3 14 0 0");
        due.is("cell(-1, 0)", x.cell(-1, 0), -1);
        due.is("cell(16, 0)", x.cell(16, 0), -1);
        due.is("cell(0, -1)", x.cell(0, -1), -1);
        due.is("cell(0, 7)", x.cell(0, 7), -1);
    }

    private static void promise11() {
        RingWars x = Due.with("split .2;die;jump .0");
        due.is("thread(0, -1) without sides", x.thread(0, -1), -1);
        x.set(0, 4);
        x.run(1);
        due.is("how many", x.thread(0, -1), 2);
        due.is("the next", x.thread(0, 0), 5);
        due.is("the other", x.thread(0, 1), 6);
        due.is("no third", x.thread(0, 2), -1);
        due.is("thread(0, -2)", x.thread(0, -2), -1);
        due.is("thread(1, -1)", x.thread(1, -1), -1);
        due.is("thread(-1, -1)", x.thread(-1, -1), -1);
        x.run(1);
        due.is("one is dead", Due.threads(x, 0), "6");
        due.is("but the side lives", x.died(0, 0), -5);
        RingWars y = stepped("die");
        due.is("a dead side's threads", y.thread(0, -1), 0);
        due.is("a dead side's first", y.thread(0, 0), -1);
    }

    private static void promise12() {
        RingWars x = Due.with("copy .2 .8;jump .0;die", "jump .0", "jump .5", "die");
        x.set(0, 0);
        x.set(1, 8);
        x.run(1);
        due.is("alive: when", x.died(1, 0), -5);
        due.is("alive: by whom", x.died(1, 1), -5);
        x.run(9);
        due.is("killed: when", x.died(1, 0), 2);
        due.is("killed: by whom", x.died(1, 1), 0);
        due.is("the killer lives", x.died(0, 0), -5);
        due.is("died(2, 0)", x.died(2, 0), -1);
        due.is("died(-1, 0)", x.died(-1, 0), -1);
        due.is("died(0, -1)", x.died(0, -1), -1);
        due.is("died(0, 2)", x.died(0, 2), -1);
        x.clear();
        due.is("died(0, 0) without sides", x.died(0, 0), -1);
        x.set(2, 0);
        x.run(5);
        due.is("on an empty cell: when", x.died(0, 0), 2);
        due.is("on an empty cell: by nobody", x.died(0, 1), -5);
        x.clear();
        x.set(1, 0);
        x.set(3, 8);
        x.run(5);
        due.is("by itself", x.died(1, 1), 1);
        x.clear();
        x.set(1, 0);
        due.is("a new war's side is alive", x.died(0, 0), -5);
        due.is("and has no killer", x.died(0, 1), -5);
    }

    private static void promise12OwnerAsTheStepBegan() {
        RingWars x = new RingWars();
        due.is("jump .4", Due.fighter(x, "jump .4"), 0);
        due.is("jump .0; die <0", Due.loaded(x, 3, 0, 0, 4, 0, 0, 2, 0, 4, 0), 1);
        x.set(0, 0);
        x.set(1, 3);
        due.is("three turns", x.run(9), 3);
        due.is("when", x.died(0, 0), 3);
        due.is("the owner as the step began", x.died(0, 1), 1);
        due.is("what the step wrote", Due.cell(x, 4), "0 2 0 4 15 0 1");
    }

    private static void promise13() {
        RingWars x = Due.with("add #1 .3;add #1 .1;jump .-2", "jump .0");
        x.set(0, 2);
        x.set(1, 10);
        due.is("state(2) with no heat", x.state(2), 0);
        x.run(3);
        due.is("turns", x.state(0), 3);
        due.is("over", x.state(1), 0);
        due.is("heat of 5", x.cell(5, 6), 1);
        due.is("heat of 4", x.cell(4, 6), 1);
        due.is("of several the least", x.state(2), 4);
        due.is("who has threads", x.state(3), 3);
        x.run(4);
        due.is("heat of 5 again", x.cell(5, 6), 2);
        due.is("the greatest", x.state(2), 5);
        due.is("heat of 1 alone", stepped("add #1 .1;die").state(2), 1);
        due.is("heat of 15 alone", stepped("add #1 .-1").state(2), 15);
        due.is("heat of 0 alone", stepped("add #1 .0").state(2), 0);
        due.is("state(4)", x.state(4), -1);
        due.is("state(-1)", x.state(-1), -1);
    }

    private static void modes() {
        RingWars x = stepped("copy .0 .1");
        due.is("mode 0", Due.cell(x, 1), "1 0 0 0 1 0 1");
        due.is("its thread", Due.threads(x, 0), "1");
        x = stepped("copy .0 .-1");
        due.is("mode 0 back round", Due.cell(x, 15), "1 0 0 0 15 0 1");
        x = stepped("copy .0 @1;copy .0 .5");
        due.is("mode 1", Due.cell(x, 6), "1 0 0 1 1 0 1");
        due.is("mode 1 writes nothing", Due.cell(x, 1), "1 0 0 0 5 0 0");
        x = stepped("copy .0 @1;copy .0 .-2");
        due.is("mode 1 round the ring", Due.cell(x, 15), "1 0 0 1 1 0 1");
        x = stepped("copy .0 <1;copy .0 .5");
        due.is("mode 2", Due.cell(x, 5), "1 0 0 2 1 0 1");
        due.is("mode 2 writes", Due.cell(x, 1), "1 0 0 0 4 0 1");
        x = stepped("copy .0 <1;die");
        due.is("mode 2 from 0", Due.cell(x, 1), "0 4 0 4 15 0 1");
        due.is("its place", Due.cell(x, 0), "1 0 0 2 1 0 1");
        x = stepped("copy .0 >1;copy .0 .5");
        due.is("mode 3", Due.cell(x, 6), "1 0 0 3 1 0 1");
        due.is("mode 3 writes", Due.cell(x, 1), "1 0 0 0 6 0 1");
        x = stepped("copy .0 >1;copy .0 .-1");
        due.is("mode 3 to 0", Due.cell(x, 1), "1 0 0 0 0 0 1");
        x = stepped("copy .1 #7;die");
        due.is("mode 4", Due.cell(x, 0), "0 4 0 4 0 0 1");
    }

    private static void ordersAsTheStepBegan() {
        RingWars x = stepped("copy >1 >1;copy .0 .5");
        due.is("A first, then B", Due.cell(x, 1), "1 0 0 0 7 0 2");
        due.is("B's place behind A's", Due.cell(x, 7), "0 4 0 4 0 0 1");
        due.is("nothing at 6", Due.cell(x, 6), EMPTY);
        x = stepped("copy <0 .3");
        due.is("its own number is less", Due.cell(x, 0), "1 2 0 0 2 0 1");
        due.is("B is as it was", Due.cell(x, 3), "0 4 0 4 0 0 1");
        due.is("not as it is", Due.cell(x, 2), EMPTY);
        x = stepped("copy .1 >1;copy .0 .5");
        due.is("a copy of what is there then", Due.cell(x, 6), "1 0 0 0 6 0 1");
        x = stepped("ifz <0 #1");
        due.is("IFZ: its number as it was", Due.threads(x, 0), "1");
        due.is("though it is 0", Due.cell(x, 0), "4 2 0 4 0 0 1");
        x = stepped("copy #3 <0");
        due.is("the number that comes", Due.cell(x, 15), "0 4 0 4 3 0 1");
        due.is("its own", Due.cell(x, 0), "1 4 3 2 15 0 1");
    }

    private static void reach() {
        String[] numbers = {"2", "-2", "3", "-3"};
        int[] places = {2, 14, 3, 13};
        for (int i = 0; i < 4; i++) {
            for (int far = 2; far <= 3; far++) {
                RingWars x = Due.with("copy .0 ." + numbers[i]);
                x.physics(3, far);
                x.set(0, 0);
                x.run(1);
                boolean does = far == 3 || i < 2;
                due.is("reach " + far + " to " + places[i], x.cell(places[i], 6), does ? 1 : 0);
                due.is("its owner", x.cell(places[i], 5), does ? 0 : -5);
                due.is("its kind", x.cell(places[i], 0), does ? 1 : 0);
                due.is("on", Due.threads(x, 0), "1");
            }
        }
        RingWars x = Due.with("die;copy .-1 .-3;add .0 .-2");
        x.physics(3, 1);
        x.set(0, 14);
        due.is("it dies", x.run(9), 1);
        RingWars y = Due.with("add #1 .2;add #1 .-2;jump .0");
        y.physics(3, 1);
        y.set(0, 15);
        y.run(3);
        due.is("add beyond reach", Due.cell(y, 1), "3 0 0 4 0 0 0");
        due.is("add beyond reach behind", Due.cell(y, 14), EMPTY);
        RingWars z = Due.with("copy .0 .8");
        z.physics(3, 8);
        z.set(0, 0);
        z.run(1);
        due.is("half round", z.cell(8, 6), 1);
    }

    private static void reachOfModes() {
        RingWars x = Due.with("copy .0 <3;die;die;copy .0 .-2");
        x.physics(3, 2);
        x.set(0, 0);
        x.run(1);
        due.is("mode 2 beyond reach", Due.cell(x, 3), "1 0 0 0 14 0 0");
        due.is("its place is by that", Due.cell(x, 1), "1 0 0 2 3 0 1");
        x = Due.with("copy .0 >3;die;die;copy .0 .-2");
        x.physics(3, 2);
        x.set(0, 0);
        x.run(1);
        due.is("mode 3 beyond reach", Due.cell(x, 3), "1 0 0 0 14 0 0");
        due.is("its place", Due.cell(x, 1), "1 0 0 3 3 0 1");
        x = Due.with("copy .0 >2;die;copy .0 .3");
        x.physics(3, 2);
        x.set(0, 0);
        x.run(1);
        due.is("mode 3 in reach", Due.cell(x, 2), "1 0 0 0 4 0 1");
        due.is("the write itself beyond", Due.cell(x, 5), EMPTY);
    }

    private static void copies() {
        RingWars x = stepped("copy #-3 .2;die;add .1 .1");
        due.is("copy # to a number", Due.cell(x, 2), "2 0 1 0 13 0 1");
        x = stepped("copy .2 .3;die;add <5 >6;jump @7");
        due.is("copy of an order", Due.cell(x, 3), "2 2 5 3 6 0 1");
        due.is("from there", Due.cell(x, 2), "2 2 5 3 6 0 0");
        x = stepped("copy .0 .0");
        due.is("a copy to itself is a write", Due.cell(x, 0), "1 0 0 0 0 0 1");
        RingWars y = Due.with("copy .1 .9;jump .-1", "jump .0;split #3");
        y.set(0, 0);
        y.set(1, 8);
        y.run(1);
        due.is("owner of what is written", Due.cell(y, 9), "3 0 15 4 0 0 1");
        due.is("owner of the rest", Due.cell(y, 8), "3 0 0 4 0 1 0");
    }

    private static void adds() {
        RingWars x = stepped("add #9 .1;copy .3 .10");
        due.is("add # to a number", Due.cell(x, 1), "1 0 3 0 3 0 1");
        x = stepped("add .1 .2;copy .5 .9;skip <12 >8");
        due.is("add of both numbers", Due.cell(x, 2), "5 2 1 3 1 0 1");
        due.is("from there", Due.cell(x, 1), "1 0 5 0 9 0 0");
        x = stepped("add .1 .1;copy .5 .9");
        due.is("add to itself", Due.cell(x, 1), "1 0 10 0 2 0 1");
        x = stepped("add #0 .1;die");
        due.is("add of 0 is a write", Due.cell(x, 1), "0 4 0 4 0 0 1");
        due.is("on", Due.threads(x, 0), "1");
    }

    private static void jumps() {
        due.is("jump .5", Due.threads(stepped("jump .5"), 0), "5");
        due.is("jump .-5", Due.threads(stepped("jump .-5"), 0), "11");
        due.is("jump #5", Due.threads(stepped("jump #5"), 0), "0");
        due.is("jump @1", Due.threads(stepped("jump @1;copy .0 .3"), 0), "4");
        due.is("jump <1", Due.threads(stepped("jump <1;copy .0 .3"), 0), "3");
        due.is("jump >1", Due.threads(stepped("jump >1;copy .0 .3"), 0), "4");
    }

    private static void zeros() {
        due.is("ifz .5 .1, 0", Due.threads(stepped("ifz .5 .1;copy .1 .0"), 0), "5");
        due.is("ifz .5 .1, 1", Due.threads(stepped("ifz .5 .1;copy .0 .1"), 0), "1");
        due.is("ifz .5 #0", Due.threads(stepped("ifz .5 #0"), 0), "5");
        due.is("ifz .5 #16", Due.threads(stepped("ifz .5 #16"), 0), "5");
        due.is("ifz .5 #1", Due.threads(stepped("ifz .5 #1"), 0), "1");
        due.is("ifz #5 #0", Due.threads(stepped("ifz #5 #0"), 0), "0");
        due.is("ifz .5 >1: place 1, one more then", Due.threads(stepped("ifz .5 >1;die"), 0), "1");
        due.is("ifz .5 <1: place 1 and 0", Due.threads(stepped("ifz .5 <1;copy .0 .1"), 0), "5");
        due.is("ifz .5 @0", Due.threads(stepped("ifz .5 @0"), 0), "5");
    }

    private static void skips() {
        due.is("skip #3 .1, 3", Due.threads(stepped("skip #3 .1;copy .0 .3"), 0), "2");
        due.is("skip #3 .1, 2", Due.threads(stepped("skip #3 .1;copy .0 .2"), 0), "1");
        due.is("skip #3 #3", Due.threads(stepped("skip #3 #3"), 0), "2");
        due.is("skip #3 #19", Due.threads(stepped("skip #3 #19"), 0), "2");
        due.is("skip #3 #4", Due.threads(stepped("skip #3 #4"), 0), "1");
        due.is("like orders", Due.threads(stepped("skip .1 .2;copy .3 @4;copy .3 @4"), 0), "2");
        String[] unlike = {"add .3 @4", "copy @3 @4", "copy .2 @4", "copy .3 .4", "copy .3 @5"};
        for (String other : unlike) {
            due.is("unlike " + other, Due.threads(stepped("skip .1 .2;copy .3 @4;" + other), 0), "1");
        }
        due.is("empty ones are alike", Due.threads(stepped("skip .5 .9"), 0), "2");
        due.is("A's ORDER, not its number", Due.threads(stepped("skip .0 .1;die"), 0), "1");
        RingWars x = Due.with("jump .0", "skip .-4 .-8;die;die;die");
        x.set(0, 0);
        x.set(0, 4);
        x.set(1, 8);
        x.run(3);
        due.is("owners do not matter", Due.threads(x, 2), "10");
    }

    private static void splits() {
        RingWars x = Due.with("split .0;jump .-1");
        x.set(0, 0);
        String[] want = {"1 0", "0 0", "0 1 0", "1 0 1 0", "0 1 0 0", "1 0 0 1"};
        for (String threads : want) {
            x.run(1);
            due.is("threads", Due.threads(x, 0), threads);
        }
        RingWars y = Due.with("split .0");
        y.physics(2, 1);
        y.set(0, 0);
        y.run(1);
        due.is("no more than one", Due.threads(y, 0), "1");
        RingWars z = Due.with("split .0;jump .-1");
        z.physics(2, 8);
        z.set(0, 0);
        z.run(60);
        due.is("no more than eight", z.thread(0, -1), 8);
        due.is("split #3", Due.threads(stepped("split #3"), 0), "1 0");
        due.is("split @1", Due.threads(stepped("split @1;copy .0 .4"), 0), "1 5");
    }

    private static void placesOfAllKinds() {
        for (int kind = 0; kind <= 6; kind++) {
            RingWars x = new RingWars();
            Due.loaded(x, kind, 3, 4, 2, 5);
            x.set(0, 0);
            x.run(1);
            // both places are 4: a COPY changes nothing there, an ADD doubles the 1
            String[] at4 = {"0 4 0 4 1 0 1", "0 4 0 4 1 0 2", "0 4 0 4 2 0 2"};
            due.is("mode 3 in KIND " + kind, Due.cell(x, 4), kind < 3 ? at4[kind] : at4[0]);
            due.is("mode 2 in KIND " + kind, Due.cell(x, 5), "0 4 0 4 15 0 1");
            String[] on = {"", "1", "1", "4", "1", "2", "1 4"};
            due.is("threads of KIND " + kind, Due.threads(x, 0), on[kind]);
        }
    }

    private static void turnsGoRound() {
        RingWars x = Due.with("jump .1;jump .1;jump .1;jump .1", "die");
        x.set(0, 0);
        x.set(1, 15);
        x.set(0, 5);
        x.set(0, 10);
        x.run(1);
        due.is("side 0 first", Due.threads(x, 0), "1");
        due.is("not yet side 2", Due.threads(x, 2), "5");
        x.run(1);
        due.is("side 1 is dead", x.died(1, 0), 2);
        x.run(2);
        due.is("side 2", Due.threads(x, 2), "6");
        due.is("side 3", Due.threads(x, 3), "11");
        x.run(2);
        due.is("side 0 again", Due.threads(x, 0), "2");
        due.is("side 1 left out", Due.threads(x, 2), "7");
        due.is("side 3 later", Due.threads(x, 3), "11");
        due.is("bits", x.state(3), 13);
    }
}
