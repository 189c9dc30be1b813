/** Promises 14 to 25: duel, all, key, tune, worth, ladder, ring, unlike, garden, sturdy, round, same. */
public final class DuelsTest {
    private static final Due due = new Due();

    public static void main(String[] args) {
        promise14();
        promise14Overlap();
        promise15();
        promise15Lengths();
        promise16();
        promise17();
        promise17Refusals();
        promise18And19();
        eight();
        promise20();
        promise21();
        promise22();
        promise22Places();
        promise23();
        promise24();
        promise25();
        warStays();
        due.end();
    }

    private static void promise14() {
        RingWars x = Due.with("die", "jump .0");
        due.is("f alone dies", x.duel(0, 1, 5, 0), 0);
        due.is("in turn 1", x.duel(0, 1, 5, 1), 1);
        due.is("g alone dies", x.duel(1, 0, 5, 0), 2);
        due.is("in turn 2", x.duel(1, 0, 5, 1), 2);
        due.is("none dies", x.duel(1, 1, 5, 0), 1);
        due.is("in LIMIT turns", x.duel(1, 1, 5, 1), 100);
        due.is("over when the first is dead", x.duel(0, 0, 5, 0), 0);
        x.physics(1, 1);
        due.is("LIMIT 1", x.duel(1, 0, 5, 0), 1);
        due.is("LIMIT 1: turns", x.duel(1, 0, 5, 1), 1);
        due.is("f", x.duel(2, 0, 16, 2), -1);
        due.is("f below", x.duel(-1, 0, 0, 0), -1);
        due.is("g", x.duel(0, 2, 0, 0), -1);
        due.is("g below", x.duel(0, -1, 0, 0), -1);
        due.is("what 2", x.duel(0, 0, 16, 2), -1);
        due.is("what -1", x.duel(0, 0, 0, -1), -1);
        due.is("d 16", x.duel(0, 0, 16, 0), -2);
        due.is("d -1", x.duel(0, 0, -1, 0), -2);
        due.is("d 15", x.duel(0, 0, 15, 0), 0);
    }

    private static void promise14Overlap() {
        RingWars x = Due.with("jump .0;jump .0", "die", "jump .1;die");
        due.is("g's order stands at 0: f dies on it", x.duel(0, 1, 0, 0), 0);
        due.is("in turn 1", x.duel(0, 1, 0, 1), 1);
        due.is("g stands at 1: it dies alone", x.duel(0, 1, 1, 0), 2);
        due.is("g round the ring takes f's first", x.duel(0, 2, 15, 0), 0);
    }

    private static void promise15() {
        RingWars x = Due.with("die", "jump .0", "copy .5 .8;jump .0");
        due.is("all 1", x.all(1, 0, 0), 15);
        due.is("no 0", x.all(1, 0, 1), 0);
        due.is("no -1", x.all(1, 0, 2), 0);
        due.is("all -1", x.all(0, 1, 2), 15);
        due.is("all 0", x.all(1, 1, 1), 15);
        due.is("itself", x.all(0, 0, 2), 15);
        // an empty cell comes to 8 alone, ahead of g's first turn; with g at 5 it is g's own order that comes there
        due.is("one distance of 14", x.all(2, 1, 0), 1);
        due.is("13 of 14", x.all(2, 1, 1), 13);
        due.is("what 3", x.all(0, 0, 3), -1);
        due.is("what -1", x.all(0, 0, -1), -1);
        due.is("f", x.all(3, 0, 0), -1);
        due.is("g", x.all(0, 3, 0), -1);
        due.is("f below", x.all(-1, 0, 0), -1);
        due.is("g below", x.all(0, -1, 0), -1);
    }

    private static void promise15Lengths() {
        RingWars x = Due.with("die;die;die;die;die;die;die;die", "die;die;die", "jump .0");
        due.is("8 and 8 in 16", x.all(0, 0, 2), 1);
        due.is("8 and 3 in 16", x.all(0, 1, 2), 6);
        due.is("1 and 3 in 16", x.all(2, 1, 0), 13);
        x.physics(0, 8);
        due.is("8 and 8 in 8", x.all(0, 0, 2), 0);
        due.is("8 and 1 in 8", x.all(0, 2, 2), 0);
        due.is("3 and 3 in 8", x.all(1, 1, 2), 3);
        due.is("after new physics", x.all(2, 1, 0), 5);
        x.physics(1, 1);
        due.is("after a new LIMIT", x.all(2, 1, 0), 0);
        due.is("all are 0 then", x.all(2, 1, 1), 5);
    }

    private static void promise16() {
        RingWars x = Due.with("jump .1;jump .-1", "die", "jump .0");
        due.is("left out, the first dies at once", x.key(0, 1), 0);
        due.is("it doesn't beat that", x.key(0, 2), -5);
        due.is("it loses to that", x.key(1, 0), -5);
        due.is("itself", x.key(0, 0), -5);
        // an empty cell comes to 8: g dies of it at 7 and 8, and f of g's at 9
        due.is("one that beats itself", Due.with("copy .5 .8;jump .0").key(0, 0), 0);
        due.is("f", x.key(3, 0), -1);
        due.is("g", x.key(0, 3), -1);
        due.is("f below", x.key(-1, 0), -1);
        due.is("g below", x.key(0, -1), -1);
        due.is("the fighter stays", Due.order(x, 0, 0), "3 0 1 4 0");
    }

    private static void promise17() {
        // only where the numbers are alike does it skip its die
        RingWars x = Due.with("skip #1 .3;die;jump .0;copy .0 .7", "jump .0", "skip #7 .1;die;jump .0;copy .0 .7");
        due.is("A", x.tune(0, 0, 0, 1), 7);
        due.is("B", x.tune(2, 0, 1, 1), 3);
        due.is("of several the least", x.tune(0, 3, 0, 1), 0);
        due.is("another order's B", x.tune(0, 3, 1, 1), 1);
        due.is("the fighter stays", Due.order(x, 0, 0), "5 4 1 0 3");
        due.is("and its table", x.all(0, 1, 2), 12);
        x.physics(0, 8);
        due.is("in 8 cells", x.tune(0, 0, 0, 1), 7);
        RingWars y = Due.with("die;die;die;die;die;die;die;die");
        y.physics(0, 15);
        due.is("no distance", y.tune(0, 0, 0, 0), 0);
        // it goes on at 2 and its number: with 1 it lives one turn longer than g does with 2, with 3 for ever
        RingWars z = Due.with("copy #2 .2;jump @1;die;jump .1;die;jump .0");
        due.is("against itself as it is", z.tune(0, 0, 0, 0), 1);
        Due.fighter(z, "jump .0");
        due.is("against another", z.tune(0, 0, 0, 1), 3);
    }

    private static void promise17Refusals() {
        RingWars x = Due.with("die;die", "die");
        due.is("f", x.tune(2, 0, 0, 0), -1);
        due.is("f below", x.tune(-1, 0, 0, 0), -1);
        due.is("g", x.tune(0, 0, 0, 2), -1);
        due.is("g below", x.tune(0, 0, 0, -1), -1);
        due.is("i", x.tune(0, 2, 0, 0), -1);
        due.is("i of the shorter", x.tune(1, 1, 0, 0), -1);
        due.is("i below", x.tune(0, -1, 0, 0), -1);
        due.is("which 2", x.tune(0, 0, 2, 0), -1);
        due.is("which -1", x.tune(0, 0, -1, 0), -1);
        due.is("all well", x.tune(0, 1, 1, 1), 0);
    }

    private static void promise18And19() {
        RingWars x = Due.with("die");
        due.is("alone", x.worth(0), 0);
        due.is("the ladder of one", x.ladder(0), 0);
        due.is("no second", x.ladder(1), -1);
        Due.fighter(x, "jump .0");
        Due.fighter(x, "die");
        Due.fighter(x, "jump .0");
        due.is("15 lost to each", x.worth(0), 0);
        due.is("30 won, 15 even", x.worth(1), 105);
        due.is("like ones", x.worth(3), 105);
        int[] want = {1, 3, 0, 2};
        for (int i = 0; i < want.length; i++) {
            due.is("ladder(" + i + ")", x.ladder(i), want[i]);
        }
        due.is("ladder(4)", x.ladder(4), -1);
        due.is("ladder(-1)", x.ladder(-1), -1);
        due.is("worth(4)", x.worth(4), -1);
        due.is("worth(-1)", x.worth(-1), -1);
        x.physics(0, 8);
        due.is("worth in 8 cells", x.worth(1), 49);
        due.is("no fighters, no ladder", new RingWars().ladder(0), -1);
        // all are even: 25, 26 and 27 distances in all
        RingWars y = Due.with("jump .0;die;die", "jump .0;die", "jump .0");
        due.is("the ladder's first", y.ladder(0), 2);
        due.is("the ladder's second", y.ladder(1), 1);
        due.is("the ladder's third", y.ladder(2), 0);
        due.is("25", y.worth(0), 25);
        due.is("26", y.worth(1), 26);
        due.is("27", y.worth(2), 27);
    }

    private static void eight() {
        RingWars x = Due.with("die", "jump .0", "jump .0", "jump .0", "jump .0", "jump .0", "jump .0", "jump .0");
        due.is("the last against the last", x.all(7, 7, 1), 15);
        due.is("worth of the last", x.worth(7), 45 + 90);
        due.is("the last on the ladder", x.ladder(7), 0);
        due.is("the one ahead of it", x.ladder(6), 7);
        due.is("unlike the last", x.unlike(0, 7), 30 + 7 * 15);
        due.is("no ring", x.ring(2), -5);
        due.is("a garden with the last", x.garden(128 + 1, 0), 128);
        due.is("a garden of the last four", x.garden(0xf0, 0), 0xf0);
    }

    private static void promise20() {
        RingWars x = Due.with("die", "jump .0", "jump .0");
        due.is("none", x.ring(0), -5);
        due.is("none, second", x.ring(1), -5);
        due.is("none, third", x.ring(2), -5);
        due.is("ring(3)", x.ring(3), -1);
        due.is("ring(-1)", x.ring(-1), -1);
        due.is("of no fighters", new RingWars().ring(0), -5);
        String f = "split >0";
        String g = "add >4 >3;skip .3 .4";
        String h = "ifz .0 .3";
        ringIs(0, 1, 2, f, g, h);
        ringIs(0, 2, 1, f, h, g);
        ringIs(1, 2, 3, "die", h, f, g);
        ringIs(1, 3, 2, "die", g, f, h);
        ringIs(0, 1, 2, f, g, h, f, g, h);
        ringIs(0, 3, 1, f, h, h, g, g);
        noRing("jump .0", "jump .0", "jump .0");
        // each beats all that die earlier
        String one = "die";
        String two = "jump .1;die";
        String three = "jump .1;jump .1;die";
        noRing(one, two, three);
        noRing(one, three, two);
        noRing(two, one, three);
        noRing(two, three, one);
        noRing(three, one, two);
        noRing(three, two, one);
    }

    private static void noRing(String... texts) {
        RingWars x = Due.with(texts);
        for (int i = 0; i < 3; i++) {
            due.is("no ring(" + i + ")", x.ring(i), -5);
        }
    }

    private static void ringIs(int f, int g, int h, String... texts) {
        RingWars x = Due.with(texts);
        x.physics(0, 8);
        x.physics(1, 60);
        due.is("ring(0)", x.ring(0), f);
        due.is("ring(1)", x.ring(1), g);
        due.is("ring(2)", x.ring(2), h);
        due.is("f beats g", x.all(f, g, 0) - x.all(f, g, 2) > 0 ? 1 : 0, 1);
        due.is("g beats h", x.all(g, h, 0) - x.all(g, h, 2) > 0 ? 1 : 0, 1);
        due.is("h beats f", x.all(h, f, 0) - x.all(h, f, 2) > 0 ? 1 : 0, 1);
    }

    private static void promise21() {
        RingWars x = Due.with("die", "jump .0");
        // the tables: die -15, -15; jump 15, 0
        due.is("unlike(0, 1)", x.unlike(0, 1), 45);
        due.is("unlike(1, 0)", x.unlike(1, 0), 45);
        due.is("unlike(0, 0)", x.unlike(0, 0), 0);
        Due.fighter(x, "die");
        due.is("against a third", x.unlike(0, 1), 75);
        due.is("of like ones", x.unlike(0, 2), 0);
        due.is("unlike(3, 0)", x.unlike(3, 0), -1);
        due.is("unlike(0, 3)", x.unlike(0, 3), -1);
        due.is("unlike(-1, 0)", x.unlike(-1, 0), -1);
        due.is("unlike(0, -1)", x.unlike(0, -1), -1);
    }

    private static void promise22() {
        RingWars x = Due.with("die", "jump .0", "die", "jump .0", "jump .1;die");
        due.is("who lives of 0, 1", x.garden(3, 0), 2);
        due.is("turns of 0, 1", x.garden(3, 1), 1);
        due.is("who lives of 1, 2", x.garden(6, 0), 2);
        due.is("turns of 1, 2", x.garden(6, 1), 2);
        due.is("who lives of 0, 1, 3", x.garden(11, 0), 10);
        due.is("turns of 0, 1, 3", x.garden(11, 1), 100);
        due.is("who lives of 0, 2, 3, 4", x.garden(29, 0), 8);
        due.is("turns of 0, 2, 3, 4", x.garden(29, 1), 6);
        due.is("what 2", x.garden(0, 2), -1);
        due.is("what -1", x.garden(3, -1), -1);
        due.is("none of them", x.garden(0, 0), -2);
        due.is("one of them", x.garden(16, 0), -2);
        due.is("five of them", x.garden(31, 0), -2);
        due.is("one that is none", x.garden(33, 0), -2);
        due.is("bit 31", x.garden(Integer.MIN_VALUE | 1, 0), -2);
        due.is("all bits", x.garden(-1, 0), -2);
        due.is("of no fighters", new RingWars().garden(3, 0), -2);
    }

    private static void promise22Places() {
        for (int at = 1; at < 8; at++) {
            // in 8 cells three stand at 0, 2 and 5: an empty cell comes to 5 ahead of the third one's first turn
            RingWars x = Due.with("copy .3 ." + at + ";jump .0", "jump .0", "jump .0");
            x.physics(0, 8);
            int want = at == 1 ? 6 : at == 2 ? 5 : at == 5 ? 3 : 7;
            due.is("three in 8 cells, " + at, x.garden(7, 0), want);
        }
        for (int at = 1; at < 10; at++) {
            // in 10 cells four stand at 0, 2, 5 and 7
            RingWars x = Due.with("copy .3 ." + at + ";jump .0", "jump .0", "jump .0", "jump .0");
            x.physics(0, 10);
            int want = at == 1 ? 14 : at == 2 ? 13 : at == 5 ? 11 : at == 7 ? 7 : 15;
            due.is("four in 10 cells, " + at, x.garden(15, 0), want);
        }
    }

    private static void promise23() {
        RingWars x = Due.with("jump .0", "die", "jump .1;jump .-1", "skip #2 .3;die;jump .0;copy .0 .1");
        due.is("its A leads away, its B does nothing", x.sturdy(0), 1);
        due.is("die", x.sturdy(1), 0);
        // A of the first leads to an empty cell, A of the second to itself
        due.is("jump and jump back", x.sturdy(2), 3);
        // 2 is 1 and 1: only the number that is one more in the fourth saves it
        due.is("one of eight", x.sturdy(3), 1);
        due.is("the fighter stays", Due.order(x, 3, 0), "5 4 2 0 3");
        due.is("sturdy(4)", x.sturdy(4), -1);
        due.is("sturdy(-1)", x.sturdy(-1), -1);
        x.physics(1, 1);
        due.is("alive behind one turn", x.sturdy(0), 2);
        RingWars y = Due.with("jump .15");
        due.is("15 and 1 is 0", y.sturdy(0), 1);
        RingWars z = Due.with("jump .99");
        z.physics(0, 10);
        due.is("99 and 1 is 0 in 10 cells", z.sturdy(0), 1);
    }

    private static void promise24() {
        RingWars x = Due.with("jump .0", "jump .1;jump .-1", "die", "add #1 .1;jump .-1", "add #1 .2;jump .-1;jump .0");
        due.is("jump .0", x.round(0), 1);
        due.is("of two", x.round(1), 2);
        due.is("dead", x.round(2), -5);
        due.is("a number that goes round", x.round(3), 32);
        due.is("a number beside", x.round(4), 32);
        x.physics(0, 8);
        due.is("in 8 cells", x.round(3), 16);
        x.physics(1, 17);
        due.is("LIMIT 17", x.round(3), 16);
        x.physics(1, 16);
        due.is("LIMIT 16", x.round(3), -5);
        x.physics(1, 3);
        due.is("LIMIT 3", x.round(1), 2);
        x.physics(1, 2);
        due.is("LIMIT 2", x.round(1), -5);
        due.is("LIMIT 2, jump .0", x.round(0), 1);
        x.physics(1, 1);
        due.is("LIMIT 1", x.round(0), -5);
        due.is("round(5)", x.round(5), -1);
        due.is("round(-1)", x.round(-1), -1);
        RingWars y = Due.with("split .1;jump .0;jump .0", "copy .0 .0;jump .-1");
        due.is("two threads on one cell", y.round(0), 1);
        due.is("writes that change nothing", y.round(1), 2);
        RingWars z = Due.with("split .2;jump .0;jump .0", "add #1 #0;jump .-1", "jump .1;jump .0");
        due.is("two threads by turns", z.round(0), 2);
        due.is("only its own number goes round", z.round(1), 32);
        z.physics(0, 32);
        due.is("in 32 cells", z.round(1), 64);
        z.physics(1, 3);
        due.is("as it was behind turn 2", z.round(2), 1);
        z.physics(1, 2);
        due.is("and behind turn 1", z.round(2), 1);
    }

    private static void promise25() {
        RingWars x = Due.with("jump .0", "jump .1;jump .-1", "die", "copy .0 .1", "copy .0 .2", "jump .1;die",
            "copy .1 .2;jump .0", "add #0 .2;jump .0");
        due.is("none writes", x.same(0, 1), -5);
        due.is("one is dead", x.same(2, 0), 1);
        due.is("the other is dead", x.same(0, 2), 1);
        due.is("both are dead", x.same(2, 2), -5);
        due.is("one writes", x.same(3, 0), 1);
        due.is("the other writes", x.same(0, 3), 1);
        due.is("other cells", x.same(3, 4), 1);
        due.is("dead in turn 2", x.same(5, 0), 2);
        due.is("dead in turn 1 and 2", x.same(5, 2), 1);
        due.is("like cells, other writes", x.same(6, 7), -5);
        due.is("later", x.same(3, 3), -5);
        due.is("same(8, 0)", x.same(8, 0), -1);
        due.is("same(0, 8)", x.same(0, 8), -1);
        due.is("same(-1, 0)", x.same(-1, 0), -1);
        due.is("same(0, -1)", x.same(0, -1), -1);
        x.physics(1, 2);
        due.is("LIMIT 2", x.same(5, 0), 2);
        x.physics(1, 1);
        due.is("LIMIT 1", x.same(5, 0), -5);
        RingWars y = Due.with("copy .0 .2;jump .0", "jump .1;jump .0", "copy .0 >1;copy .0 .2", "copy .0 .3;jump .0");
        due.is("the cell that was written last", y.same(2, 3), 2);
        y.physics(3, 1);
        due.is("a write that does nothing is none", y.same(0, 1), -5);
        RingWars z = Due.with("add #1 .5;add #1 .4;jump .0", "add #1 .5;jump .1;jump .0", "jump .1;jump .1;add #1 .3;jump .0",
            "jump .1;jump .1;jump .1;jump .0");
        due.is("a cell that was written in a turn ahead is none", z.same(0, 1), 2);
        due.is("a cell that was written in a turn ahead is none, too", z.same(1, 0), 2);
        due.is("a write in turn 3", z.same(2, 3), 3);
    }

    private static void warStays() {
        RingWars x = Due.with("copy .0 .1", "add #1 .1;jump .-1");
        x.set(0, 0);
        x.set(1, 8);
        x.run(5);
        String before = Due.cell(x, 1) + Due.cell(x, 9) + Due.threads(x, 0) + ";" + Due.threads(x, 1);
        x.duel(0, 1, 4, 0);
        x.all(0, 1, 0);
        x.key(1, 0);
        x.tune(1, 0, 0, 0);
        x.worth(0);
        x.ladder(0);
        x.ring(0);
        x.unlike(0, 1);
        x.garden(3, 0);
        x.sturdy(0);
        x.round(0);
        x.same(0, 1);
        due.is("the war", Due.cell(x, 1) + Due.cell(x, 9) + Due.threads(x, 0) + ";" + Due.threads(x, 1), before);
        due.is("turns", x.state(0), 5);
        due.is("sides", x.count(5), 2);
        due.is("on", x.run(3), 3);
    }
}
