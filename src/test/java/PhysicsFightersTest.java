/** Promises 1 to 6: a new object, physics, feed, fighter, load, of. */
public final class PhysicsFightersTest {
    private static final int NOTHING = -11, CAST = -12, PLACE = -13;
    private static final Due due = new Due();

    public static void main(String[] args) {
        promise1();
        promise2Edges();
        promise2Refusals();
        promise2Keeps();
        promise3();
        promise3Full();
        promise4Orders();
        promise4Names();
        promise4Faults();
        promise4NameFaults();
        promise4BehindAFault();
        promise4Full();
        promise5();
        promise5Refusals();
        promise5Orders();
        promise6();
        due.end();
    }

    private static void promise1() {
        RingWars x = new RingWars();
        int[] counts = {16, 100, 4, 32, 0, 0, 0, 0};
        for (int what = 0; what < counts.length; what++) {
            due.is("count(" + what + ") of a new object", x.count(what), counts[what]);
        }
        for (int cell = 0; cell < 16; cell++) {
            due.is("cell " + cell + " of a new object", Due.cell(x, cell), "0 4 0 4 0 -5 0");
        }
        due.is("cell(16, 0)", x.cell(16, 0), -1);
        due.is("state(0)", x.state(0), 0);
        due.is("state(1)", x.state(1), 1);
        due.is("state(2)", x.state(2), 0);
        due.is("state(3)", x.state(3), 0);
        due.is("thread(0, -1)", x.thread(0, -1), -1);
        due.is("of(0, -1, 0)", x.of(0, -1, 0), RingWars.NO);
        due.is("trace(0)", x.trace(0), -1);
        due.is("back()", x.back(), -3);
        for (int tape = 0; tape < 6; tape++) {
            due.is("item of a new tape", x.item(tape, 0, 1), NOTHING);
        }
        due.is("NO", RingWars.NO, Long.MIN_VALUE);
    }

    private static void promise2Edges() {
        int[] least = {8, 1, 1, 1};
        int[] greatest = {32, 150, 8, 32};
        int[] first = {16, 100, 4, 32};
        for (int what = 0; what < 4; what++) {
            RingWars x = new RingWars();
            String call = "physics(" + what + ", ..)";
            due.is(call + " below", x.physics(what, least[what] - 1), -2);
            due.is(call + " above", x.physics(what, greatest[what] + 1), -2);
            due.is(call + " far below", x.physics(what, Integer.MIN_VALUE), -2);
            due.is(call + " unchanged", x.count(what), first[what]);
            due.is(call + " least", x.physics(what, least[what]), first[what]);
            due.is(call + " is least", x.count(what), least[what]);
            due.is(call + " greatest", x.physics(what, greatest[what]), least[what]);
            due.is(call + " is greatest", x.count(what), greatest[what]);
            due.is(call + " as it is", x.physics(what, greatest[what]), greatest[what]);
        }
        RingWars x = new RingWars();
        x.physics(0, 32);
        due.is("cell(31, 1) of 32", x.cell(31, 1), 4);
        due.is("cell(32, 1) of 32", x.cell(32, 1), -1);
        x.physics(0, 8);
        due.is("cell(7, 1) of 8", x.cell(7, 1), 4);
        due.is("cell(8, 1) of 8", x.cell(8, 1), -1);
    }

    private static void promise2Refusals() {
        RingWars x = Due.with("jump .0");
        due.is("physics(-1, 0)", x.physics(-1, 0), -1);
        due.is("physics(4, 0)", x.physics(4, 0), -1);
        x.set(0, 0);
        due.is("physics(4, 0) in war", x.physics(4, 0), -1);
        due.is("physics(0, 7) in war", x.physics(0, 7), -2);
        due.is("physics(0, 8) in war", x.physics(0, 8), -3);
        due.is("count(0)", x.count(0), 16);
        due.is("sides", x.count(5), 1);
        x.clear();
        due.is("physics(0, 8) after the war", x.physics(0, 8), 16);
    }

    private static void promise2Keeps() {
        RingWars x = Due.with("copy .0 .20");
        x.set(0, 3);
        x.run(2);
        x.image();
        x.clear();
        x.physics(1, 50);
        x.physics(2, 1);
        due.is("fighters stay", x.count(4), 1);
        due.is("an order stays", Due.order(x, 0, 0), "1 0 0 0 20");
        due.is("the ring is empty", Due.cell(x, 3), "0 4 0 4 0 -5 0");
        due.is("the image stays", x.back(), 2);
        due.is("the image's cell", Due.cell(x, 3), "1 0 0 0 4 0 0");
        RingWars y = Due.with("jump .0");
        due.is("distances in 16 cells", y.all(0, 0, 1), 15);
        y.physics(0, 10);
        due.is("distances in 10 cells", y.all(0, 0, 1), 9);
    }

    private static void promise3() {
        RingWars x = new RingWars();
        due.is("feed(.., 0)", x.feed(-1, 0), 0);
        due.is("feed(.., 3)", x.feed(0x7f646965, 3), 3);
        due.is("fighter() of 3 bytes", x.fighter(), 0);
        due.is("feed 4", x.feed(0x6a756d70, 4), 4);
        due.is("feed 2", x.feed(0x0102202e, 2), 6);
        due.is("feed 1", x.feed(0xffffff35, 1), 7);
        due.is("count(6)", x.count(6), 7);
        due.is("fighter() of 7 bytes", x.fighter(), 1);
        due.is("its order", Due.order(x, 1, 0), "3 0 5 4 0");
        due.is("count(6) then", x.count(6), 0);
        due.is("feed(0, -1)", x.feed(0, -1), -2);
        due.is("feed(0, 5)", x.feed(0, 5), -2);
        due.is("count(6) after BAD", x.count(6), 0);
        due.is("feed of a high byte", x.feed(0x80, 1), 1);
        due.is("fault of a high byte", x.fighter(), -10);
        due.is("feed(-1, 4)", x.feed(-1, 4), 4);
    }

    private static void promise3Full() {
        RingWars x = new RingWars();
        for (int i = 1; i <= 37; i++) {
            due.is("feed " + i, x.feed(0, 4), 4 * i);
        }
        due.is("feed 3 at 148", x.feed(0, 3), -4);
        due.is("feed 5 at 148", x.feed(0, 5), -2);
        due.is("count(6)", x.count(6), 148);
        due.is("feed 2 at 148", x.feed(0, 2), 150);
        due.is("feed 1 at 150", x.feed(0, 1), -4);
        due.is("feed 0 at 150", x.feed(0, 0), 150);
        due.is("feed 4 at 150", x.feed(0, 4), -4);
    }

    private static void promise4Orders() {
        RingWars x = new RingWars();
        due.is("all words", Due.fighter(x,
            "die;copy .0 @1;add <2 >3;jump #4;ifz .-1 .-99;skip .00 .09;split @12;die"), 0);
        String[] want = {"0 4 0 4 0", "1 0 0 1 1", "2 2 2 3 3", "3 4 4 4 0", "4 0 -1 0 -99", "5 0 0 0 9",
            "6 1 12 4 0", "0 4 0 4 0"};
        due.is("orders", x.of(0, -1, 0), 8);
        for (int i = 0; i < want.length; i++) {
            due.is("order " + i, Due.order(x, 0, i), want[i]);
        }
        due.is("signs", Due.fighter(x, "copy #1 >-2;copy <3 @-0;copy .-5 #-66"), 1);
        due.is("signs 0", Due.order(x, 1, 0), "1 4 1 3 -2");
        due.is("signs 1", Due.order(x, 1, 1), "1 2 3 1 0");
        due.is("signs 2", Due.order(x, 1, 2), "1 0 -5 4 -66");
    }

    private static void promise4Names() {
        RingWars x = new RingWars();
        due.is("names", Due.fighter(x, "f:jump .f;e:add #b @f;die;b:copy <a >e;a:die"), 0);
        due.is("a name for itself", Due.order(x, 0, 0), "3 0 0 4 0");
        due.is("names on and behind", Due.order(x, 0, 1), "2 4 2 1 -1");
        due.is("names of the order behind", Due.order(x, 0, 3), "1 2 1 3 -2");
        due.is("names that begin words", Due.fighter(x, "a:add .a .c;c:copy .d .a;d:die;jump .d"), 1);
        due.is("a name before", Due.order(x, 1, 0), "2 0 0 0 1");
        due.is("a name ahead of copy", Due.order(x, 1, 1), "1 0 1 0 -1");
        due.is("back to die", Due.order(x, 1, 3), "3 0 -1 4 0");
        due.is("all six", Due.fighter(x, "a:die;b:die;c:die;d:die;e:die;f:die;jump .a;split .f"), 2);
        due.is("to the first", Due.order(x, 2, 6), "3 0 -6 4 0");
        due.is("to the sixth", Due.order(x, 2, 7), "6 0 -2 4 0");
        due.is("names are each text's own", Due.fighter(x, "b:die"), 3);
        due.is("and again", Due.fighter(x, "b:die"), 4);
    }

    private static void fault(String text, int place) {
        RingWars x = new RingWars();
        due.is("fault of \"" + text + "\"", Due.fighter(x, text), -10 - place);
        due.is("no fighter", x.count(4), 0);
        due.is("the text is empty", x.count(6), 0);
    }

    private static void promise4Faults() {
        fault("", 0);
        fault(" die", 0);
        fault("x", 0);
        fault("A:die", 0);
        fault("g:die", 0);
        fault("`:die", 0);
        fault("d", 1);
        fault("di", 2);
        fault("dia", 2);
        fault("dye", 1);
        fault("die ", 3);
        fault("die.", 3);
        fault("die;", 4);
        fault("die;;", 4);
        fault("die; die", 4);
        fault("s", 1);
        fault("sx", 1);
        fault("skit", 3);
        fault("spl", 3);
        fault("spip", 2);
        fault("ifx", 2);
        fault("jump", 4);
        fault("jump;", 4);
        fault("jump.0", 4);
        fault("jump !0", 5);
        fault("jump ", 5);
        fault("jump  .0", 5);
        fault("jump 0", 5);
        fault("jump .", 6);
        fault("jump .g", 6);
        fault("jump ..", 6);
        fault("jump .-", 7);
        fault("jump .-a", 7);
        fault("jump .--1", 7);
        fault("jump .1-", 7);
        fault("jump .1a", 7);
        fault("jump .a1", 7);
        fault("jump .123", 8);
        fault("jump .-123", 9);
        fault("jump .1 .2", 7);
        fault("split .1 .2", 8);
        fault("copy .1", 7);
        fault("add .1;", 6);
        fault("ifz .1 ", 7);
        fault("skip .1 .", 9);
        fault("skip .1 .2 .3", 10);
        fault("die;die;die;die;die;die;die;die;", 31);
        fault("die;die;die;die;die;die;die;die;die", 31);
        fault("die;die;die;die;die;die;die;diex", 31);
    }

    private static void promise4NameFaults() {
        fault("a", 1);
        fault("b", 1);
        fault("b ", 1);
        fault("bd", 1);
        fault("a:", 2);
        fault("a:;", 2);
        fault("a: die", 2);
        fault("a:b:die", 2);
        fault("a:a", 3);
        fault("a:ax", 3);
        fault("a:a:die", 3);
        fault("a:die;a:die", 7);
        fault("c:die;c:die", 7);
        fault("d:die;d:die", 7);
        fault("b:die;b:die", 6);
        fault("e:die;e:die", 6);
        fault("f:die;f:die", 6);
        fault("b:die;b", 6);
        fault("a:die;a", 7);
        fault("ad:die", 2);
        fault("jump .b", 6);
        fault("jump .b;die", 6);
        fault("copy .a #b;b:die;jump .c", 6);
        fault("a:copy .a #b;jump .c", 11);
        fault("jump .b;dye", 9);
        fault("jump .b;", 8);
        fault("die;die;die;die;die;die;die;jump .b", 34);
    }

    private static void promise4BehindAFault() {
        RingWars x = new RingWars();
        due.is("a fault", Due.fighter(x, "a:copy .5 <7;add #8 >a;jump .9!"), -10 - 30);
        due.is("a fighter behind it", Due.fighter(x, "die;a:jump .1"), 0);
        due.is("orders", x.of(0, -1, 0), 2);
        due.is("order 0", Due.order(x, 0, 0), "0 4 0 4 0");
        due.is("order 1", Due.order(x, 0, 1), "3 0 1 4 0");
        due.is("a bad tape", Due.loaded(x, 1, 1, 1, 1, 1, 9, 1, 1, 1, 1), -2);
        due.is("a fighter behind it", Due.fighter(x, "die"), 1);
        due.is("its orders", x.of(1, -1, 0), 1);
        due.is("its order", Due.order(x, 1, 0), "0 4 0 4 0");
    }

    private static void promise4Full() {
        RingWars x = new RingWars();
        for (int f = 0; f < 8; f++) {
            due.is("fighter " + f, Due.fighter(x, "die"), f);
        }
        Due.feed(x, "die");
        due.is("a ninth", x.fighter(), -4);
        due.is("the text stays", x.count(6), 3);
        Due.feed(x, "!");
        due.is("a ninth with a fault", x.fighter(), -4);
        due.is("that stays, too", x.count(6), 4);
        due.is("fighters", x.count(4), 8);
    }

    private static void promise5() {
        RingWars x = new RingWars();
        x.tape(0, 1, 12);
        int[] items = {9, 6, 3, -99, 2, 99, 0, 0, 1, 1, 0, 7};
        for (int i = 0; i < items.length; i++) {
            x.item(0, i, items[i]);
        }
        due.is("load(0, 1, 2)", x.load(0, 1, 2), 0);
        due.is("orders", x.of(0, -1, 0), 2);
        due.is("order 0", Due.order(x, 0, 0), "6 3 -99 2 99");
        due.is("order 1", Due.order(x, 0, 1), "0 0 1 1 0");
        x.item(0, 1, 0);
        due.is("the fighter stays as it was", Due.order(x, 0, 0), "6 3 -99 2 99");
        x.tape(1, 1, 40);
        due.is("eight orders", x.load(1, 0, 8), 1);
        due.is("of kind 0, modes 0", Due.order(x, 1, 7), "0 0 0 0 0");
    }

    private static void promise5Refusals() {
        RingWars x = new RingWars();
        due.is("load(-1, 0, 0)", x.load(-1, 0, 0), -1);
        due.is("load(6, 0, 0)", x.load(6, 0, 0), -1);
        due.is("load(0, -1, 0)", x.load(0, -1, 0), -2);
        due.is("load(0, 0, 9)", x.load(0, 0, 9), -2);
        due.is("load of nothing", x.load(0, -1, 1), NOTHING);
        int[] sorts = {0, 2, 3, 4};
        for (int sort : sorts) {
            x.tape(0, sort, 5);
            due.is("load of sort " + sort, x.load(0, -1, 1), CAST);
        }
        x.tape(0, 1, 6);
        due.is("load(0, -1, 1)", x.load(0, -1, 1), PLACE);
        due.is("load(0, 2, 1)", x.load(0, 2, 1), PLACE);
        due.is("load(0, MAX, 1)", x.load(0, Integer.MAX_VALUE, 1), PLACE);
        due.is("load(0, MIN, 1)", x.load(0, Integer.MIN_VALUE, 1), PLACE);
        due.is("load(0, 0, 2)", x.load(0, 0, 2), PLACE);
        x.item(0, 1, 7);
        due.is("PLACE ahead of BAD", x.load(0, 2, 1), PLACE);
        due.is("load(0, 1, 1) of KIND 7", x.load(0, 1, 1), -2);
        due.is("no fighter", x.count(4), 0);
        x.item(0, 1, 6);
        due.is("load(0, 1, 1)", x.load(0, 1, 1), 0);
        for (int f = 1; f < 8; f++) {
            due.is("load " + f, x.load(0, 1, 1), f);
        }
        due.is("FULL", x.load(0, 1, 1), -4);
        due.is("FULL ahead of NOTHING", x.load(3, 0, 1), -4);
        due.is("BAD ahead of FULL", x.load(3, 0, 0), -2);
        due.is("NONE ahead of FULL", x.load(9, 0, 1), -1);
    }

    private static void promise5Orders() {
        int[] low = {0, 0, -99, 0, -99};
        int[] high = {6, 4, 99, 4, 99};
        for (int item = 0; item < 5; item++) {
            for (int side = 0; side < 4; side++) {
                RingWars x = new RingWars();
                int[] items = {1, 1, 1, 1, 1, 1, 1, 1, 1, 1};
                items[5 + item] = side == 0 ? low[item] : side == 1 ? high[item] : side == 2 ? low[item] - 1
                    : high[item] + 1;
                due.is("item " + item + " as " + items[5 + item], Due.loaded(x, items), side < 2 ? 0 : -2);
                due.is("fighters", x.count(4), side < 2 ? 1 : 0);
            }
        }
    }

    private static void promise6() {
        RingWars x = Due.with("copy .-3 <44;die");
        due.is("of(0, -1, 77)", x.of(0, -1, 77), 2);
        due.is("of(0, 0, ..)", Due.order(x, 0, 0), "1 0 -3 2 44");
        x.physics(0, 8);
        due.is("as told, whatever CELLS are", Due.order(x, 0, 0), "1 0 -3 2 44");
        long no = RingWars.NO;
        due.is("of(1, -1, 0)", x.of(1, -1, 0), no);
        due.is("of(-1, -1, 0)", x.of(-1, -1, 0), no);
        due.is("of(0, 2, 0)", x.of(0, 2, 0), no);
        due.is("of(0, -2, 0)", x.of(0, -2, 0), no);
        due.is("of(0, 0, -1)", x.of(0, 0, -1), no);
        due.is("of(0, 0, 5)", x.of(0, 0, 5), no);
        due.is("of(MAX, 0, 0)", x.of(Integer.MAX_VALUE, 0, 0), no);
    }
}
