/** Promises 26 to 35: image, back, act, trace, taken, count, tape, item, read, shift. */
public final class ImageActsTapesTest {
    private static final int NOTHING = -11, CAST = -12, PLACE = -13, SIZE = -14;
    /** KINDS 0 to 6 in cells 1 to 7; their NUMBERS B are 0, 2, 3, 0, 5, 6, 0. */
    private static final String ALL_KINDS = "die;copy .1 .2;add .1 .3;jump .1;ifz .1 .5;skip .1 .6;split .1";
    private static final Due due = new Due();

    public static void main(String[] args) {
        promise26And27();
        promise27Again();
        promise27Died();
        promise27Physics();
        promise27Empty();
        promise28();
        promise28Wraps();
        promise28Nothing();
        promise29();
        promise30();
        promise31();
        promise32();
        promise33();
        promise34();
        promise35();
        promise35Refusals();
        due.end();
    }

    /** A war of three of which the image was taken behind 8 turns. */
    private static RingWars pictured() {
        RingWars x = Due.with("split .2;copy .-1 >7;add #1 .-1;jump .-3", "jump .0", "die");
        due.is("back() without an image", x.back(), -3);
        due.is("image() of no war", x.image(), 0);
        x.set(0, 0);
        x.set(2, 5);
        x.set(1, 10);
        due.is("back() to no war", x.back(), 0);
        due.is("sides then", x.count(5), 0);
        x.set(0, 0);
        x.set(2, 5);
        x.set(1, 10);
        x.run(8);
        due.is("image() in war", x.image(), 8);
        return x;
    }

    private static void promise26And27() {
        RingWars x = pictured();
        String then = Due.war(x);
        x.run(5);
        String later = Due.war(x);
        due.is("it went on", then.equals(later) ? 1 : 0, 0);
        due.is("back()", x.back(), 8);
        x.run(5);
        due.is("and goes on as then", Due.war(x), later);
    }

    private static void promise27Again() {
        RingWars x = pictured();
        String then = Due.war(x);
        x.run(5);
        due.is("back()", x.back(), 8);
        due.is("all is as then", Due.war(x), then);
        x.run(5);
        due.is("back() again", x.back(), 8);
        due.is("set() with turns done", x.set(1, 14), -3);
        x.clear();
        due.is("back() after clear()", x.back(), 8);
        due.is("the war is again", Due.war(x), then);
        x.clear();
        x.set(1, 3);
        due.is("another image", x.image(), 0);
        x.clear();
        due.is("back() to the other", x.back(), 0);
        due.is("its side", Due.threads(x, 0), "3");
        due.is("sides", x.count(5), 1);
        due.is("set() without turns", x.set(1, 14), 1);
    }

    private static void promise27Died() {
        RingWars x = Due.with("jump .0", "jump .1;die");
        x.set(0, 0);
        x.set(0, 2);
        x.set(1, 4);
        x.run(3);
        x.image();
        x.run(5);
        due.is("dead", x.died(2, 0), 6);
        x.back();
        due.is("alive again", x.died(2, 0), -5);
        due.is("without a killer", x.died(2, 1), -5);
        x.run(5);
        x.image();
        x.clear();
        for (int side = 0; side < 4; side++) {
            x.set(0, side);
        }
        due.is("alive in another war", x.died(2, 0), -5);
        due.is("back()", x.back(), 8);
        due.is("sides", x.count(5), 3);
        due.is("dead again", x.died(2, 0), 6);
        due.is("by itself", x.died(2, 1), 2);
        due.is("no threads", x.thread(2, -1), 0);
        x.run(1);
        due.is("turns", x.state(0), 9);
    }

    private static void promise27Physics() {
        RingWars x = Due.with("split .0;jump .-1");
        x.set(0, 0);
        x.run(100);
        due.is("over", x.state(1), 1);
        x.image();
        x.clear();
        x.physics(0, 17);
        due.is("back() in other cells", x.back(), -3);
        due.is("sides", x.count(5), 0);
        x.physics(0, 16);
        x.physics(1, 120);
        x.physics(2, 2);
        due.is("back() in as many cells", x.back(), 100);
        due.is("four threads still", x.thread(0, -1), 4);
        due.is("not over by the new LIMIT", x.state(1), 0);
        due.is("run(150)", x.run(150), 20);
        due.is("no new threads", x.thread(0, -1), 4);
        x.clear();
        x.physics(1, 50);
        due.is("back() beyond LIMIT", x.back(), 100);
        due.is("over by the new LIMIT", x.state(1), 1);
        due.is("run(1)", x.run(1), -3);
    }

    private static void promise27Empty() {
        RingWars x = Due.with("jump .0");
        x.image();
        x.physics(0, 9);
        due.is("back() to no war in other cells", x.back(), -3);
        due.is("image() anew", x.image(), 0);
        due.is("back() then", x.back(), 0);
    }

    private static void act(RingWars x, int cell, int act, int want, String trace) {
        due.is("act(" + cell + ", " + act + ", 10)", x.act(cell, act, 10), want);
        due.is("its trace", Due.trace(x), trace);
    }

    private static void promise28() {
        RingWars x = Due.with(ALL_KINDS);
        x.set(0, 1);
        act(x, 1, 0, 11, "10");
        act(x, 1, 1, 11, "11 10");
        act(x, 1, 2, 22, "12 11 10");
        act(x, 2, 0, 12, "10");
        act(x, 2, 1, 15, "20 11 10");
        act(x, 2, 2, 30, "12 20 11 10");
        act(x, 3, 0, 13, "10");
        act(x, 3, 1, 20, "30 20 11 10 10");
        act(x, 3, 2, 34, "31 12 30 20 11 10 10");
        act(x, 4, 0, -14, "40 10");
        act(x, 4, 1, -14, "11 40 10");
        act(x, 4, 2, -28, "12 11 40 10");
        act(x, 5, 0, -15, "40 10");
        act(x, 5, 1, -20, "11 40 10");
        act(x, 5, 2, 20, "50 11 40 10 12 11 40 10");
        act(x, 6, 0, 16, "10");
        act(x, 6, 1, 10, "11 10");
        act(x, 6, 2, 27, "60 12 11 10 10");
        act(x, 7, 0, -37, "70 40 10");
        act(x, 7, 1, -36, "71 11 70 40 10");
        act(x, 7, 2, -72, "12 71 11 70 40 10");
        act(x, 15, 1, 25, "11 10");
    }

    private static void promise28Wraps() {
        RingWars x = Due.with(ALL_KINDS);
        x.set(0, 1);
        int max = Integer.MAX_VALUE;
        int min = Integer.MIN_VALUE;
        due.is("x + c", x.act(1, 0, max), min);
        due.is("does * 2", x.act(1, 2, max), 0);
        due.is("x - 1", x.act(3, 2, min), ((max + 3 - 3 ^ 5) + 5) * 2);
        due.is("minus the least", x.act(4, 0, min - 4), min);
        due.is("x * 3", x.act(7, 0, 1 << 30), (1 << 30) - 7);
        due.is("does - ends", x.act(5, 2, max), -((-(max + 5)) - 5));
    }

    private static void promise28Nothing() {
        RingWars x = Due.with(ALL_KINDS);
        x.set(0, 1);
        int[][] wrong = {{16, 0}, {-1, 0}, {0, 3}, {0, -1}, {Integer.MIN_VALUE, Integer.MAX_VALUE}};
        for (int[] call : wrong) {
            x.act(3, 2, 10);
            due.is("bodies", x.count(7), 7);
            due.is("no such act", x.act(call[0], call[1], 10), 0);
            due.is("no bodies", x.count(7), 0);
            due.is("no trace", x.trace(0), -1);
        }
        x.act(3, 2, 10);
        x.clear();
        due.is("the trace stays", Due.trace(x), "31 12 30 20 11 10 10");
        due.is("an act of an empty ring", x.act(3, 2, 10), 26);
    }

    private static void promise29() {
        RingWars x = Due.with(ALL_KINDS);
        x.set(0, 1);
        x.act(2, 1, 0);
        due.is("trace(0)", x.trace(0), 20);
        due.is("trace(2)", x.trace(2), 10);
        due.is("trace(3)", x.trace(3), -1);
        due.is("trace(-1)", x.trace(-1), -1);
        due.is("trace(20)", x.trace(20), -1);
        due.is("trace(MIN)", x.trace(Integer.MIN_VALUE), -1);
        x.act(1, 0, 0);
        due.is("the latest alone", Due.trace(x), "10");
    }

    private static void promise30() {
        RingWars x = Due.with(ALL_KINDS);
        x.set(0, 1);
        String[] ups = {"0", "0 1", "0 1 2", "0 3", "0 3 4", "0 5", "0 3 6"};
        for (int kind = 0; kind <= 6; kind++) {
            for (int k = 0; k <= 6; k++) {
                boolean is = ups[kind].indexOf('0' + k) >= 0;
                due.is("taken(" + (kind + 1) + ", " + k + ")", x.taken(kind + 1, k), is ? kind : CAST);
            }
        }
        due.is("an empty cell", x.taken(15, 0), 0);
        due.is("an empty cell for a copy", x.taken(15, 1), CAST);
        due.is("taken(1, 7)", x.taken(1, 7), -2);
        due.is("taken(1, -1)", x.taken(1, -1), -2);
        due.is("taken(16, 7)", x.taken(16, 7), -2);
        due.is("taken(16, 6)", x.taken(16, 6), NOTHING);
        due.is("taken(-1, 0)", x.taken(-1, 0), NOTHING);
    }

    private static void promise31() {
        RingWars x = Due.with("jump .0", "die");
        x.physics(0, 20);
        x.physics(1, 33);
        x.physics(2, 7);
        x.physics(3, 5);
        Due.feed(x, "jump .");
        x.set(0, 0);
        x.set(0, 1);
        x.set(1, 2);
        x.act(0, 2, 1);
        int[] want = {20, 33, 7, 5, 2, 3, 6, 4};
        for (int what = 0; what < want.length; what++) {
            due.is("count(" + what + ")", x.count(what), want[what]);
        }
        due.is("count(8)", x.count(8), -2);
        due.is("count(-1)", x.count(-1), -2);
    }

    private static void promise32() {
        RingWars x = new RingWars();
        due.is("tape(-1, ..)", x.tape(-1, 9, -1), -1);
        due.is("tape(6, ..)", x.tape(6, -1, 0), -1);
        due.is("sort -2", x.tape(0, -2, 0), -2);
        due.is("sort 5", x.tape(0, 5, 0), -2);
        due.is("sort 5 and a size below 0", x.tape(0, 5, -1), -2);
        due.is("n 61", x.tape(0, 0, 61), -2);
        due.is("n -1", x.tape(0, 0, -1), SIZE);
        due.is("n MIN", x.tape(0, 3, Integer.MIN_VALUE), SIZE);
        due.is("nothing there yet", x.item(0, 0, 0), NOTHING);
        for (int sort = 0; sort <= 4; sort++) {
            due.is("60 of sort " + sort, x.tape(sort, sort, 60), 1);
            due.is("its last", x.read(sort, 59), 0);
            due.is("no 61st", x.read(sort, 60), RingWars.NO);
            x.item(sort, 59, 1);
            due.is("refused", x.tape(sort, sort, 61), -2);
            due.is("refused, too", x.tape(sort, sort, -1), SIZE);
            due.is("it stays", x.read(sort, 59), 1);
            due.is("anew", x.tape(sort, sort, 60), 1);
            due.is("all 0", x.read(sort, 59), 0);
        }
        due.is("of none", x.tape(5, 0, 0), 1);
        due.is("no place", x.item(5, 0, 0), PLACE);
        due.is("to nothing", x.tape(5, -1, -99), 1);
        due.is("nothing", x.item(5, 0, 0), NOTHING);
        due.is("to nothing of a long one", x.tape(4, -1, 99), 1);
        due.is("nothing there", x.read(4, 0), RingWars.NO);
    }

    private static void promise33() {
        RingWars x = new RingWars();
        long[] values = {0, 1, -1, 127, 128, 255, 256, 32767, 32768, 65536, 1L << 31, 1L << 32, (1L << 32) - 1,
            Long.MAX_VALUE, Long.MIN_VALUE, 0x123456789abcdef0L};
        for (int sort = 0; sort <= 4; sort++) {
            x.tape(sort, sort, values.length);
            for (int i = 0; i < values.length; i++) {
                due.is("item", x.item(sort, i, values[i]), 1);
            }
        }
        for (int i = 0; i < values.length; i++) {
            due.is("byte of " + values[i], x.read(0, i), (byte) values[i]);
            due.is("short of " + values[i], x.read(1, i), (short) values[i]);
            due.is("int of " + values[i], x.read(2, i), (int) values[i]);
            due.is("long of " + values[i], x.read(3, i), values[i]);
            due.is("boolean of " + values[i], x.read(4, i), values[i] != 0 ? 1 : 0);
        }
        due.is("item(-1, ..)", x.item(-1, 0, 0), -1);
        due.is("item(6, ..)", x.item(6, -1, 0), -1);
        due.is("item of nothing", x.item(5, -1, 0), NOTHING);
        due.is("item -1", x.item(0, -1, 0), PLACE);
        due.is("item beyond", x.item(0, values.length, 0), PLACE);
        due.is("item MAX", x.item(0, Integer.MAX_VALUE, 0), PLACE);
    }

    private static void promise34() {
        RingWars x = new RingWars();
        x.tape(2, 2, 3);
        x.item(2, 2, -7);
        due.is("read(2, 2)", x.read(2, 2), -7);
        due.is("read(2, 0)", x.read(2, 0), 0);
        due.is("read(2, 3)", x.read(2, 3), RingWars.NO);
        due.is("read(2, -1)", x.read(2, -1), RingWars.NO);
        due.is("read(3, 0)", x.read(3, 0), RingWars.NO);
        due.is("read(-1, 0)", x.read(-1, 0), RingWars.NO);
        due.is("read(6, 0)", x.read(6, 0), RingWars.NO);
    }

    private static void row(RingWars x, int tape, int sort, int n) {
        x.tape(tape, sort, n);
        for (int i = 0; i < n; i++) {
            x.item(tape, i, i + 1);
        }
    }

    private static String rowOf(RingWars x, int tape) {
        StringBuilder all = new StringBuilder();
        for (int i = 0; x.read(tape, i) != RingWars.NO; i++) {
            all.append(i == 0 ? "" : " ").append(x.read(tape, i));
        }
        return all.toString();
    }

    private static void promise35() {
        RingWars x = new RingWars();
        row(x, 0, 1, 6);
        due.is("on by two", x.shift(0, 0, 0, 2, 4), 4);
        due.is("the row", rowOf(x, 0), "1 2 1 2 3 4");
        row(x, 0, 1, 6);
        due.is("back by one", x.shift(0, 1, 0, 0, 5), 5);
        due.is("the row", rowOf(x, 0), "2 3 4 5 6 6");
        x.tape(3, 1, 4);
        due.is("to another", x.shift(0, 2, 3, 1, 3), 3);
        due.is("the other", rowOf(x, 3), "0 4 5 6");
        due.is("this one", rowOf(x, 0), "2 3 4 5 6 6");
        for (int sort = 0; sort <= 4; sort++) {
            row(x, 1, sort, 3);
            x.tape(2, sort, 2);
            due.is("of sort " + sort, x.shift(1, 1, 2, 0, 2), 2);
            due.is("its items", rowOf(x, 2), sort == 4 ? "1 1" : "2 3");
        }
        due.is("none", x.shift(0, 6, 3, 4, 0), 0);
        due.is("all", x.shift(3, 0, 3, 0, 4), 4);
        due.is("the other still", rowOf(x, 3), "0 4 5 6");
    }

    private static void promise35Refusals() {
        RingWars x = new RingWars();
        row(x, 0, 2, 5);
        row(x, 1, 2, 3);
        row(x, 2, 3, 5);
        due.is("tape -1", x.shift(-1, 0, 4, 0, 1), -1);
        due.is("tape 6", x.shift(6, 0, 0, 0, 1), -1);
        due.is("other -1", x.shift(4, 0, -1, 0, 1), -1);
        due.is("other 6", x.shift(0, 0, 6, 0, 1), -1);
        due.is("from nothing", x.shift(4, 0, 0, 0, -1), NOTHING);
        due.is("to nothing", x.shift(0, 0, 4, 0, -1), NOTHING);
        due.is("unlike sorts", x.shift(0, 0, 2, 0, -1), CAST);
        due.is("n below 0", x.shift(0, 0, 1, 0, -1), PLACE);
        due.is("i below 0", x.shift(0, -1, 1, 0, 1), PLACE);
        due.is("j below 0", x.shift(0, 0, 1, -1, 1), PLACE);
        due.is("beyond this end", x.shift(1, 1, 0, 0, 3), PLACE);
        due.is("beyond the other's end", x.shift(0, 0, 1, 1, 3), PLACE);
        due.is("none beyond this end", x.shift(1, 4, 0, 0, 0), PLACE);
        due.is("none beyond the other's", x.shift(0, 0, 1, 4, 0), PLACE);
        int max = Integer.MAX_VALUE;
        due.is("MAX of all", x.shift(0, max, 1, max, max), PLACE);
        due.is("n MAX", x.shift(0, 1, 1, 1, max), PLACE);
        due.is("n MIN", x.shift(0, 0, 1, 0, Integer.MIN_VALUE), PLACE);
        due.is("nothing came", rowOf(x, 1), "1 2 3");
    }
}
