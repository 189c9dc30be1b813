import java.util.regex.Matcher;
import java.util.regex.Pattern;

/** The document's chapter 2, and promises 1 to 6: each sentence that names an edge, with a test of its own. */
public final class EdgesOfFightersTest {
    private static final int FAULT = -10;
    private static final int NOTHING = -11, CAST = -12, PLACE = -13;
    /** The longest text that is a fighter, in all 131 bytes: all six names, two digits and a - wherever they can be. */
    private static final String LONGEST = "a:copy .-99 @-98;b:skip <-97 >-96;c:copy #-95 .-94;d:skip .-93 .-92;"
        + "e:copy .-91 .-90;f:skip .-89 .-88;copy .-87 .-86;skip #-10 #-11";
    private static final String[] WORDS = {"die", "copy", "add", "jump", "ifz", "skip", "split"};
    private static final int[] ADDRESSES = {0, 2, 2, 1, 2, 2, 1};
    private static final Due due = new Due();

    public static void main(String[] args) {
        theConstants();
        anEmptyObject();
        physicsThatWere();
        textsOf150Bytes();
        ordersAreNoneOrTooMany();
        namesOutsideAToF();
        wordsThatEndEarly();
        addressesTooFewOrTooMany();
        blanks();
        signs();
        digits();
        namesOnAndBack();
        namesToldAgain();
        firstByteThatIsWrong();
        namesToldNowhere();
        everyByteEverywhere();
        eightFighters();
        numbersAsTheyAreSetDown();
        feedsOfNoneToFour();
        feedsTakeLowestBytes();
        feedsFillTheText();
        fightersOfAnEmptyText();
        fightersWhenFull();
        loadsOfOneToEight();
        loadsAtBothEnds();
        loadsOfNumbers();
        loadsOfOrdersThatAreNone();
        loadsNameTheFirst();
        lengthsOfFighters();
        ordersOfFighters();
        due.end();
    }

    /** The place of a text's fault, or -1: it is a fighter. */
    private static int faultOf(String text) {
        int answer = Due.fighter(new RingWars(), text);
        return answer == 0 ? -1 : FAULT - answer;
    }

    /** A text has its fault at a place. */
    private static void fault(String text, int place) {
        due.is("the fault of \"" + text + "\"", faultOf(text), place);
    }

    /** A text is a fighter. */
    private static void well(String text) {
        due.is("fighter() of \"" + text + "\"", Due.fighter(new RingWars(), text), 0);
    }

    private static String orders(int n) {
        return "die;".repeat(n - 1) + "die";
    }

    private static void theConstants() {
        due.by("Answers: NONE (-1) no such number; BAD (-2) a number is not as told; STATE (-3) as told; FULL (-4)");
        due.is("NONE", RingWars.NONE, -1);
        due.is("BAD", RingWars.BAD, -2);
        due.is("STATE", RingWars.STATE, -3);
        due.is("FULL", RingWars.FULL, -4);
        due.by("The constants: `NO = Long.MIN_VALUE`: There is no such number.");
        due.is("NO", RingWars.NO, Long.MIN_VALUE);
    }

    private static void anEmptyObject() {
        due.by("An empty RING, no FIGHTERS.");
        RingWars x = new RingWars();
        due.is("fighters", x.count(4), 0);
        due.is("bytes", x.count(6), 0);
        due.is("sides", x.count(5), 0);
        due.is("bodies", x.count(7), 0);
        due.is("fighter 0", x.of(0, -1, 0), RingWars.NO);
        due.is("set(0, 0)", x.set(0, 0), RingWars.NONE);
        due.is("duel(0, 0, 0, 0)", x.duel(0, 0, 0, 0), RingWars.NONE);
        due.is("worth(0)", x.worth(0), RingWars.NONE);
        due.is("ladder(0)", x.ladder(0), RingWars.NONE);
        due.is("ring(0)", x.ring(0), -5);
        due.is("garden(3, 0)", x.garden(3, 0), RingWars.BAD);
        due.is("sturdy(0)", x.sturdy(0), RingWars.NONE);
        due.is("round(0)", x.round(0), RingWars.NONE);
        due.is("same(0, 0)", x.same(0, 0), RingWars.NONE);
        due.is("clear()", x.clear(), 0);
        due.is("image()", x.image(), 0);
        due.is("an act of an empty cell", x.act(15, 1, 5), 20);
    }

    private static void physicsThatWere() {
        due.by("PHYSICS: what 0 CELLS, 1 LIMIT, 2 MOST, 3 REACH becomes n: what it was.");
        int[][] edges = {{16, 8, 32}, {100, 1, 150}, {4, 1, 8}, {32, 1, 32}};
        RingWars x = new RingWars();
        for (int what = 0; what < 4; what++) {
            int[] told = edges[what];
            due.is("physics(" + what + ", the least)", x.physics(what, told[1]), told[0]);
            due.is("physics(" + what + ", the greatest)", x.physics(what, told[2]), told[1]);
            due.is("physics(" + what + ", as it is)", x.physics(what, told[2]), told[2]);
            due.is("count(" + what + ")", x.count(what), told[2]);
        }
        due.is("each alone", x.count(0) + " " + x.count(1) + " " + x.count(2) + " " + x.count(3), "32 150 8 32");
    }

    private static void textsOf150Bytes() {
        due.by("A FIGHTER is read from THE TEXT (bytes, 150 at most)");
        due.is("bytes of the longest", LONGEST.length(), 131);
        well(LONGEST);
        fault(LONGEST + ";".repeat(19), 131);
        fault(LONGEST + "\u00ff", 131);
        fault(" ".repeat(150), 0);
        fault("die;".repeat(37) + "di", 31);
        RingWars x = new RingWars();
        Due.feed(x, LONGEST + "-".repeat(19));
        due.is("bytes", x.count(6), 150);
        due.is("one more", x.feed('-', 1), RingWars.FULL);
        due.is("its fault", x.fighter(), FAULT - 131);
    }

    private static void ordersAreNoneOrTooMany() {
        due.by("ORDERS, 8 at most, with ; between");
        fault("", 0);
        fault(";", 0);
        fault(";die", 0);
        fault("die;", 4);
        fault("die;;die", 4);
        for (int n = 1; n <= 8; n++) {
            RingWars x = new RingWars();
            due.is(n + " orders", Due.fighter(x, orders(n)), 0);
            due.is("how many", x.of(0, -1, 0), n);
        }
        fault(orders(9), 31);
        fault(orders(8) + ";", 31);
        fault(orders(37), 31);
        fault("jump .0;jump .0;jump .0;jump .0;jump .0;jump .0;jump .0;jump .0;jump .0", 63);
    }

    private static void namesOutsideAToF() {
        due.by("perhaps a NAME (a .. f) and a colon");
        for (char name = 'a'; name <= 'f'; name++) {
            well(name + ":die");
            well("die;jump ." + name + ";" + name + ":die");
        }
        char[] none = {'a' - 1, 'f' + 1, 'A', 'F', '0', ':', 'z', 200};
        for (char name : none) {
            fault(name + ":die", 0);
            fault("jump ." + name, name == '0' ? -1 : 6);
        }
        fault("a", 1);
        fault("a;", 1);
        fault("b:", 2);
        fault("b::die", 2);
        fault("b: die", 2);
        fault("b :die", 1);
        fault(":die", 0);
    }

    private static void wordsThatEndEarly() {
        due.by("a word: die, copy, add, jump, ifz, skip, split");
        for (String word : WORDS) {
            for (int n = 0; n < word.length(); n++) {
                String begun = word.substring(0, n);
                fault(begun, n);
                fault("die;" + begun, 4 + n);
                fault("die;e:" + begun, 6 + n);
                fault(begun + "?", n);
                fault(begun + (char) (word.charAt(n) - 32), n);
            }
        }
        fault("s", 1);
        fault("st", 1);
        fault("skplit", 2);
        fault("spip", 2);
        fault("copyy", 4);
        fault("diee", 3);
    }

    private static void addressesTooFewOrTooMany() {
        due.by("of copy, add, ifz, skip two ADDRESSES, of jump, split one (B is MODE 4, 0 then), of die none (both)");
        for (int kind = 0; kind < WORDS.length; kind++) {
            for (int told = 0; told <= 3; told++) {
                String text = WORDS[kind] + " @7".repeat(told);
                int place = WORDS[kind].length() + 3 * Math.min(told, ADDRESSES[kind]);
                fault(text, told == ADDRESSES[kind] ? -1 : place);
                fault(text + ";die", told == ADDRESSES[kind] ? -1 : place);
            }
            RingWars x = Due.with(WORDS[kind] + " @7".repeat(ADDRESSES[kind]));
            due.is("its order", Due.order(x, 0, 0), kind + (ADDRESSES[kind] > 0 ? " 1 7" : " 4 0")
                + (ADDRESSES[kind] > 1 ? " 1 7" : " 4 0"));
        }
        // nothing is left of a text that was none
        RingWars y = new RingWars();
        due.is("a fault behind much", Due.fighter(y, "b:copy <5 >7;b:"), FAULT - 13);
        due.is("a fault in a name", Due.fighter(y, "copy <5 >7;jump .f"), FAULT - 17);
        due.is("a jump behind them", Due.fighter(y, "jump @3;die;b:die"), 0);
        due.is("B is MODE 4, 0", Due.order(y, 0, 0), "3 1 3 4 0");
        due.is("both are", Due.order(y, 0, 1), "0 4 0 4 0");
    }

    private static void blanks() {
        due.by("each with one blank ahead");
        fault("jump.1", 4);
        fault("jump  .1", 5);
        fault("jump\t.1", 4);
        fault("jump .1 ", 7);
        fault("jump .1 ;die", 7);
        fault("jump .1; die", 8);
        fault("copy .1.2", 7);
        fault("copy .1  .2", 8);
        fault(" copy .1 .2", 0);
        fault("copy .1 .2 ", 10);
        fault("die ", 3);
    }

    private static void signs() {
        due.by("a sign . @ < > or # (MODES 0 .. 4)");
        for (int mode = 0; mode <= 4; mode++) {
            RingWars x = new RingWars();
            char sign = ".@<>#".charAt(mode);
            due.is("the sign " + sign, Due.fighter(x, "copy " + sign + "1 " + sign + "a;a:split " + sign + "-9"), 0);
            due.is("A and B", Due.order(x, 0, 0), "1 " + mode + " 1 " + mode + " 1");
            due.is("A alone", Due.order(x, 0, 1), "6 " + mode + " -9 4 0");
        }
        for (char sign = 0; sign < 256; sign++) {
            if (".@<>#".indexOf(sign) < 0) {
                fault("jump " + sign + "1", 5);
                fault("copy .1 " + sign + "1", 8);
            }
        }
        fault("jump .", 6);
        fault("jump ..1", 6);
    }

    private static void digits() {
        due.by("a number (perhaps with - ahead; 1 or 2 digits)");
        for (int n = -99; n <= 99; n++) {
            RingWars x = new RingWars();
            due.is("a number " + n, Due.fighter(x, "add ." + n + " #" + n), 0);
            due.is("as told", Due.order(x, 0, 0), "2 0 " + n + " 4 " + n);
        }
        String[] told = {"00", "-0", "-00", "01", "-01", "09"};
        int[] numbers = {0, 0, 0, 1, -1, 9};
        for (int i = 0; i < told.length; i++) {
            RingWars x = new RingWars();
            Due.fighter(x, "jump ." + told[i]);
            due.is("the number " + told[i], x.of(0, 0, 2), numbers[i]);
        }
        fault("jump .", 6);
        fault("jump .-", 7);
        fault("jump .--1", 7);
        fault("jump .+1", 6);
        fault("jump .100", 8);
        fault("jump .-100", 9);
        fault("jump .000", 8);
        fault("jump .1-", 7);
        fault("jump ./", 6);
        fault("jump .:", 6);
        fault("jump .9:", 7);
    }

    private static void namesOnAndBack() {
        due.by("or a NAME (how far on that is from here; of # too)");
        for (int from = 0; from < 8; from++) {
            for (int to = 0; to < 8; to++) {
                StringBuilder text = new StringBuilder();
                for (int i = 0; i < 8; i++) {
                    text.append(i == 0 ? "" : ";").append(i == to ? "b:" : "").append(i == from ? "copy #b .b" : "die");
                }
                RingWars x = new RingWars();
                due.is("fighter() of " + text, Due.fighter(x, text.toString()), 0);
                due.is("from " + from + " to " + to, Due.order(x, 0, from), "1 4 " + (to - from) + " 0 " + (to - from));
            }
        }
        fault("a:jump .-a", 9);
        fault("a:jump .a1", 9);
        fault("a:jump .aa", 9);
        fault("a:jump .1a", 9);
        fault("a:jump a", 7);
    }

    private static void namesToldAgain() {
        due.by("A NAME is told once (where its letter can begin a word, too, the colon behind it is what is wrong in one that "
            + "is told again).");
        String begin = "acd";
        for (char name = 'a'; name <= 'f'; name++) {
            int place = begin.indexOf(name) < 0 ? 0 : 1;
            fault(name + ":die;" + name + ":die", 6 + place);
            fault(name + ":" + name + ":die", 2 + place);
            fault(name + ":die;die;die;die;die;die;die;" + name + ":die", 30 + place);
            fault(name + ":jump ." + name + ";" + name, 10 + place);
            well(name + ":jump ." + name + ";copy ." + name + " @" + name);
        }
        well("a:add .a .a");
        well("c:copy .c .c");
        well("d:die");
        well("a:die;add .a .a");
        well("a:die;b:die;c:die;d:die;e:die;f:die;add .a .b;copy .c .d");
        fault("a:die;b:die;c:die;d:die;e:die;f:die;g:die", 36);
        fault("a:die;b:die;c:die;d:die;e:die;f:die;f:die", 36);
        fault("a:die;b:die;c:die;d:die;e:die;f:die;a:die", 37);
        RingWars x = new RingWars();
        due.is("once in each text", Due.fighter(x, "b:die") * 10 + Due.fighter(x, "b:die"), 1);
    }

    private static void firstByteThatIsWrong() {
        due.by("The FAULT: the place of the first byte with which none begins so (the end of THE TEXT, if it ends too early)");
        for (int n = 0; n < LONGEST.length(); n++) {
            String begun = LONGEST.substring(0, n);
            int want = fighterFault(begun);
            fault(begun, want);
            due.is("at its end, if there is one", want < 0 || want == n ? 1 : 0, 1);
        }
        fault("!die;!die", 0);
        fault("die;!die;!die", 4);
        fault("b!", 1);
        fault("bdie", 1);
        fault("a?", 1);
        fault("die\0", 3);
        fault("di\u0080", 2);
    }

    private static void namesToldNowhere() {
        due.by("if all is well but for NAMES that are told nowhere: the place of the first such");
        fault("jump .a", 6);
        fault("copy .a .b", 6);
        fault("a:copy .a .b", 11);
        fault("jump .b;b:jump .c;copy .d .e", 16);
        fault("die;die;die;die;die;die;die;copy #f #f", 34);
        fault("jump #f", 6);
        fault("jump .a;", 8);
        fault("jump .a;dia", 10);
        fault("jump .a;jump .b;b:die;b:die", 22);
        well("jump .a;a:die");
        well("die;die;die;die;die;die;jump .f;f:die");
    }

    private static final String ADDRESS = " [.@<>#](?:-?[0-9]{1,2}|[a-f])";

    /** One ORDER with one of these names, or none. */
    private static Pattern order(String names) {
        String name = names.isEmpty() ? "" : "(?:[" + names + "]:)?";
        return Pattern.compile(name + "(?:die|(?:copy|add|ifz|skip)" + ADDRESS + ADDRESS + "|(?:jump|split)" + ADDRESS
            + ")");
    }

    /** The FAULT of a text by patterns, or -1. */
    private static int fighterFault(String text) {
        String[] orders = text.split(";", -1);
        String free = "abcdef";
        int start = 0;
        for (int i = 0; i < orders.length; i++) {
            if (i == 8) {
                return start - 1;
            }
            Pattern pattern = order(free);
            for (int n = 1; n <= orders[i].length(); n++) {
                Matcher begun = pattern.matcher(orders[i].substring(0, n));
                if (!begun.matches() && !begun.hitEnd()) {
                    return start + n - 1;
                }
            }
            if (!pattern.matcher(orders[i]).matches()) {
                return start + orders[i].length();
            }
            if (orders[i].charAt(1) == ':') {
                free = free.replace(orders[i].substring(0, 1), "");
            }
            start += orders[i].length() + 1;
        }
        Matcher names = Pattern.compile("[.@<>#]([a-f])").matcher(text);
        while (names.find()) {
            if (free.contains(names.group(1))) {
                return names.start(1);
            }
        }
        return -1;
    }

    private static void everyByteEverywhere() {
        due.by("the place of the first byte with which none begins so");
        String[] texts = {LONGEST, "a:add #3 .b;copy .b @b;jump .a;b:die", "split .f;ifz <1 >2;f:skip .e #e;e:die",
            "c:copy .d .c;die;d:die;die;die;die;die;add .c #0"};
        for (String text : texts) {
            for (int place = 0; place <= text.length(); place++) {
                for (char b = 0; b < 256; b += b > 128 ? 60 : 1) {
                    String begun = text.substring(0, place) + b;
                    String changed = begun + text.substring(Math.min(place + 1, text.length()));
                    fault(begun, fighterFault(begun));
                    fault(changed, fighterFault(changed));
                }
            }
        }
    }

    private static void eightFighters() {
        due.by("FIGHTERS 0 .. 7, as they come.");
        RingWars x = new RingWars();
        for (int f = 0; f < 8; f++) {
            due.is("fighter " + f + " is not there yet", x.of(f, -1, 0), RingWars.NO);
            int got = f % 2 == 0 ? Due.fighter(x, "jump ." + f) : Due.loaded(x, 3, 0, f, 4, 0);
            due.is("fighter " + f, got, f);
            due.is("a fault between", Due.fighter(x, "jump"), f == 7 ? RingWars.FULL : FAULT - 4);
        }
        for (int f = 0; f < 8; f++) {
            due.is("fighter " + f + "'s number", x.of(f, 0, 2), f);
        }
        due.is("no ninth", x.of(8, -1, 0), RingWars.NO);
    }

    private static void numbersAsTheyAreSetDown() {
        due.by("Its NUMBERS are taken modulo CELLS as it is set down.");
        RingWars x = Due.with("copy .-99 #99;jump @-1");
        int[] sizes = {8, 16, 32, 9};
        String[] firsts = {"1 0 5 4 3 0 0", "1 0 13 4 3 0 0", "1 0 29 4 3 0 0", "1 0 0 4 0 0 0"};
        for (int i = 0; i < sizes.length; i++) {
            x.clear();
            x.physics(0, sizes[i]);
            x.set(0, sizes[i] - 1);
            due.is("the first in " + sizes[i], Due.cell(x, sizes[i] - 1), firsts[i]);
            due.is("the second in " + sizes[i], Due.cell(x, 0), "3 1 " + (sizes[i] - 1) + " 4 0 0 0");
            due.is("as told", Due.order(x, 0, 0), "1 0 -99 4 99");
        }
    }

    private static void feedsOfNoneToFour() {
        due.by("The n lowest bytes of a number, the highest first (n 0 .. 4), come behind THE TEXT's: how many it has. BAD; FULL.");
        RingWars x = new RingWars();
        int[] wrong = {-1, 5, Integer.MIN_VALUE, Integer.MAX_VALUE, -4, 256};
        for (int n : wrong) {
            due.is("feed(0, " + n + ")", x.feed(0, n), RingWars.BAD);
        }
        due.is("feed(.., 0) of an empty one", x.feed(0x646965, 0), 0);
        int size = 0;
        for (int n = 0; n <= 4; n++) {
            size += n;
            due.is("feed(.., " + n + ")", x.feed(-1, n), size);
            due.is("count(6)", x.count(6), size);
        }
    }

    private static void feedsTakeLowestBytes() {
        due.by("The n lowest bytes of a number, the highest first");
        int[] numbers = {0x21646965, 0x646965, 0xff646965};
        for (int number : numbers) {
            RingWars x = new RingWars();
            x.feed(number, 3);
            due.is("three", x.fighter(), 0);
            x.feed('d', 1);
            x.feed(0x21216965, 2);
            due.is("one and two", x.fighter(), 1);
            x.feed(0x6a756d70, 4);
            x.feed(0x20232d38, 4);
            due.is("four and four", x.fighter(), 2);
            due.is("its order", Due.order(x, 2, 0), "3 4 -8 4 0");
        }
        RingWars x = new RingWars();
        x.feed(0x80646965, 4);
        due.is("a byte above 127 is none of a fighter's", x.fighter(), FAULT);
        x.feed(0x646965e4, 4);
        due.is("nor behind one", x.fighter(), FAULT - 3);
    }

    private static void feedsFillTheText() {
        due.by("come behind THE TEXT's: how many it has. BAD; FULL.");
        for (int bytes = 145; bytes <= 150; bytes++) {
            for (int n = -1; n <= 5; n++) {
                RingWars x = new RingWars();
                for (int k = 0; k < bytes; k++) {
                    x.feed('d', 1);
                }
                int want = n < 0 || n > 4 ? RingWars.BAD : bytes + n > 150 ? RingWars.FULL : bytes + n;
                due.is("feed(.., " + n + ") behind " + bytes, x.feed(0, n), want);
                due.is("bytes then", x.count(6), want < 0 ? bytes : want);
            }
        }
    }

    private static void fightersOfAnEmptyText() {
        due.by("THE TEXT, which is empty then, is a FIGHTER: its number. FULL (THE TEXT stays); -10 less the FAULT.");
        RingWars x = new RingWars();
        due.is("of no bytes", x.fighter(), FAULT);
        due.is("again", x.fighter(), FAULT);
        Due.feed(x, "die");
        due.is("a fighter", x.fighter(), 0);
        due.is("the text is empty then", x.count(6), 0);
        due.is("of no bytes again", x.fighter(), FAULT);
        Due.feed(x, "dice");
        due.is("a fault", x.fighter(), FAULT - 2);
        due.is("the text is empty then, too", x.count(6), 0);
        due.is("fighters", x.count(4), 1);
    }

    private static void fightersWhenFull() {
        due.by("FULL (THE TEXT stays)");
        RingWars x = Due.with("die", "die", "die", "die", "die", "die", "die", "die");
        due.is("of no bytes", x.fighter(), RingWars.FULL);
        Due.feed(x, "jump .5");
        due.is("of a fighter's", x.fighter(), RingWars.FULL);
        due.is("bytes", x.count(6), 7);
        Due.feed(x, "?");
        due.is("of a fault's", x.fighter(), RingWars.FULL);
        due.is("bytes and one", x.count(6), 8);
        due.is("fighters", x.count(4), 8);
    }

    /** Tape 0 is a row of so many shorts, all 0. */
    private static RingWars withShorts(int n) {
        RingWars x = new RingWars();
        x.tape(0, 1, n);
        return x;
    }

    private static void loadsOfOneToEight() {
        due.by("n (1 .. 8) ORDERS of 5 items");
        int[] wrong = {0, -1, 9, 12, Integer.MIN_VALUE, Integer.MAX_VALUE};
        for (int n : wrong) {
            due.is("load(0, 0, " + n + ")", withShorts(60).load(0, 0, n), RingWars.BAD);
        }
        for (int n = 1; n <= 8; n++) {
            RingWars x = withShorts(5 * n);
            due.is("load(0, 0, " + n + ")", x.load(0, 0, n), 0);
            due.is("its orders", x.of(0, -1, 0), n);
            due.is("its last", Due.order(x, 0, n - 1), "0 0 0 0 0");
            due.is("one item too few", withShorts(5 * n - 1).load(0, 0, n), PLACE);
        }
    }

    private static void loadsAtBothEnds() {
        due.by("A FIGHTER from place i of a TAPE on: its number.");
        for (int n = 1; n <= 8; n++) {
            due.is("at its end, " + n, withShorts(60).load(0, 60 - 5 * n, n), 0);
            due.is("beyond its end, " + n, withShorts(60).load(0, 61 - 5 * n, n), PLACE);
            due.is("ahead of it, " + n, withShorts(60).load(0, -1, n), PLACE);
            due.is("far beyond, " + n, withShorts(60).load(0, Integer.MAX_VALUE, n), PLACE);
            due.is("far ahead, " + n, withShorts(60).load(0, Integer.MIN_VALUE, n), PLACE);
            due.is("of a row of none, " + n, withShorts(0).load(0, 0, n), PLACE);
        }
        RingWars x = withShorts(7);
        for (int i = 0; i < 7; i++) {
            x.item(0, i, i % 5);
        }
        due.is("from 2 on", x.load(0, 2, 1), 0);
        due.is("its order", Due.order(x, 0, 0), "2 3 4 0 1");
    }

    private static void loadsOfNumbers() {
        due.by("KIND, MODE and NUMBER of A, of B (NUMBERS -99 .. 99)");
        int[] numbers = {-100, -99, -1, 0, 1, 99, 100};
        for (int a : numbers) {
            for (int b : numbers) {
                RingWars x = new RingWars();
                boolean well = Math.abs(a) < 100 && Math.abs(b) < 100;
                due.is(a + " and " + b, Due.loaded(x, 6, 3, a, 2, b), well ? 0 : RingWars.BAD);
                if (well) {
                    due.is("its order", Due.order(x, 0, 0), "6 3 " + a + " 2 " + b);
                }
            }
        }
    }

    private static void loadsOfOrdersThatAreNone() {
        due.by("BAD: an ORDER that is none.");
        int[] least = {0, 0, -99, 0, -99};
        int[] greatest = {6, 4, 99, 4, 99};
        for (int item = 0; item < 40; item++) {
            int[] values = {least[item % 5], greatest[item % 5], least[item % 5] - 1, greatest[item % 5] + 1, -32768, 32767};
            for (int k = 0; k < values.length; k++) {
                RingWars x = withShorts(40);
                x.item(0, item, values[k]);
                due.is("item " + item + " as " + values[k], x.load(0, 0, 8), k < 2 ? 0 : RingWars.BAD);
                due.is("fighters", x.count(4), k < 2 ? 1 : 0);
            }
        }
        RingWars x = withShorts(10);
        x.item(0, 0, 9);
        due.is("an order that is none, ahead of the place", x.load(0, 5, 1), 0);
        x.item(0, 0, 0);
        x.item(0, 9, 100);
        due.is("an order that is none, behind the last", x.load(0, 0, 1), 1);
    }

    private static void loadsNameTheFirst() {
        due.by("NONE: tape; BAD: n; FULL; NOTHING; CAST: no row of shorts; PLACE; BAD: an ORDER that is none.");
        RingWars x = withShorts(5);
        x.item(0, 0, 7);
        x.tape(1, 2, 5);
        due.is("tape and n", x.load(6, 0, 0), RingWars.NONE);
        due.is("tape below and n", x.load(-1, 0, 9), RingWars.NONE);
        due.is("n and nothing", x.load(2, -1, 9), RingWars.BAD);
        due.is("nothing and place", x.load(2, -1, 1), NOTHING);
        due.is("cast and place", x.load(1, -1, 1), CAST);
        due.is("place and an order", x.load(0, 1, 1), PLACE);
        due.is("an order", x.load(0, 0, 1), RingWars.BAD);
        for (int f = 0; f < 8; f++) {
            Due.fighter(x, "die");
        }
        due.is("tape and full", x.load(6, 0, 0), RingWars.NONE);
        due.is("n and full", x.load(0, 0, 0), RingWars.BAD);
        due.is("full and nothing", x.load(2, -1, 1), RingWars.FULL);
        due.is("full and cast", x.load(1, -1, 1), RingWars.FULL);
        due.is("full and place", x.load(0, 1, 1), RingWars.FULL);
        due.is("full and an order", x.load(0, 0, 1), RingWars.FULL);
    }

    private static void lengthsOfFighters() {
        due.by("How many ORDERS a FIGHTER has (i -1; what does not matter)");
        RingWars x = Due.with("die", orders(8));
        int[] whats = {0, -1, 5, 99, Integer.MIN_VALUE, Integer.MAX_VALUE};
        for (int what : whats) {
            due.is("of(0, -1, " + what + ")", x.of(0, -1, what), 1);
            due.is("of(1, -1, " + what + ")", x.of(1, -1, what), 8);
            due.is("of(2, -1, " + what + ")", x.of(2, -1, what), RingWars.NO);
            due.is("of(-1, -1, " + what + ")", x.of(-1, -1, what), RingWars.NO);
            due.is("of(0, -2, " + what + ")", x.of(0, -2, what), RingWars.NO);
        }
    }

    private static void ordersOfFighters() {
        due.by("of ORDER i: what 0 KIND, 1, 2 MODE and NUMBER of A, 3, 4 of B (as told, -99 .. 99). NO: fighter, i, what.");
        RingWars x = Due.with("copy @-99 >99;ifz #99 <-99");
        due.is("order 0", Due.order(x, 0, 0), "1 1 -99 3 99");
        due.is("order 1", Due.order(x, 0, 1), "4 4 99 2 -99");
        int[] wrong = {Integer.MIN_VALUE, -2, -1, 2, 5, 8, Integer.MAX_VALUE};
        for (int n : wrong) {
            due.is("of(" + n + ", 0, 0)", x.of(n, 0, 0), RingWars.NO);
            due.is("of(0, " + n + ", 0)", x.of(0, n, 0), n == -1 ? 2 : RingWars.NO);
            due.is("of(0, 0, " + n + ")", x.of(0, 0, n), n == 2 ? -99 : RingWars.NO);
        }
    }
}
