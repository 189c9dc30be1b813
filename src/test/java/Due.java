/** What the tests share: answers that are compared with those that are due, and short ways to set things up. */
final class Due {
    private int checks;
    private int wrong;

    void is(String call, long got, long want) {
        checks++;
        if (got != want) {
            wrong++;
            System.out.println(call + " answered " + got + ", due is " + want);
        }
    }

    void is(String call, String got, String want) {
        checks++;
        if (!got.equals(want)) {
            wrong++;
            System.out.println(call + " answered " + got + ", due is " + want);
        }
    }

    /** Prints the outcome, and ends with exit code 1 if an answer was not as due. */
    void end() {
        System.out.println(checks + " answers, " + wrong + " not as due");
        if (wrong != 0 || checks == 0) {
            System.exit(1);
        }
    }

    static void feed(RingWars x, String text) {
        for (int i = 0; i < text.length(); i++) {
            x.feed(text.charAt(i), 1);
        }
    }

    static int fighter(RingWars x, String text) {
        feed(x, text);
        return x.fighter();
    }

    /** A new object with these fighters. */
    static RingWars with(String... texts) {
        RingWars x = new RingWars();
        for (String text : texts) {
            if (fighter(x, text) < 0) {
                throw new IllegalStateException("no fighter: " + text);
            }
        }
        return x;
    }

    /** A fighter from a tape, five items an order; tape 5 is used for it. */
    static int loaded(RingWars x, int... items) {
        x.tape(5, 1, items.length);
        for (int i = 0; i < items.length; i++) {
            x.item(5, i, items[i]);
        }
        return x.load(5, 0, items.length / 5);
    }

    /** A cell's KIND, MODE and NUMBER of A, of B, OWNER and HEAT. */
    static String cell(RingWars x, int cell) {
        StringBuilder all = new StringBuilder();
        for (int what = 0; what <= 6; what++) {
            all.append(what == 0 ? "" : " ").append(x.cell(cell, what));
        }
        return all.toString();
    }

    static String threads(RingWars x, int side) {
        StringBuilder all = new StringBuilder();
        for (int i = 0; i < x.thread(side, -1); i++) {
            all.append(i == 0 ? "" : " ").append(x.thread(side, i));
        }
        return all.toString();
    }

    static String order(RingWars x, int fighter, int i) {
        StringBuilder all = new StringBuilder();
        for (int what = 0; what <= 4; what++) {
            all.append(what == 0 ? "" : " ").append(x.of(fighter, i, what));
        }
        return all.toString();
    }

    static String trace(RingWars x) {
        StringBuilder all = new StringBuilder();
        for (int i = 0; i < x.count(7); i++) {
            all.append(i == 0 ? "" : " ").append(x.trace(i));
        }
        return all.toString();
    }
}
