import java.io.IOException;
import java.io.UncheckedIOException;
import java.nio.file.Files;
import java.nio.file.Path;

/** What the tests share: answers that are compared with those that are due, and short ways to set things up. */
final class Due {
    private static final Path DOCUMENT = Path.of("../shared/DOC.md");

    private int checks;
    private int wrong;
    private String document = "";
    private String sentence = "";
    private int sentences;
    private int checksAhead;

    void is(String call, long got, long want) {
        is(call, Long.toString(got), Long.toString(want));
    }

    void is(String call, String got, String want) {
        checks++;
        if (!got.equals(want)) {
            wrong++;
            System.out.println(call + " answered " + got + ", due is " + want
                + (sentence.isEmpty() ? "" : " by \"" + sentence + "\""));
        }
    }

    /** The answers that follow are due by these words, which must stand in the document as they are here. */
    void by(String words) {
        endSentence();
        sentence = words;
        sentences++;
        if (document.isEmpty()) {
            document = squeezed(documentText());
        }
        is("looking for its words in the document", document.contains(squeezed(words)) ? "found" : "not found", "found");
        checksAhead = checks;
    }

    private void endSentence() {
        if (sentences > 0 && checks == checksAhead) {
            is("a test of its own", "none", "one");
        }
    }

    private static String squeezed(String text) {
        return text.replaceAll("\\s+", " ").trim();
    }

    private static String documentText() {
        try {
            return Files.readString(DOCUMENT);
        } catch (IOException thrown) {
            throw new UncheckedIOException(thrown);
        }
    }

    /** Prints the outcome, and ends with exit code 1 if an answer was not as due. */
    void end() {
        endSentence();
        System.out.println((sentences == 0 ? "" : sentences + " sentences, ") + checks + " answers, " + wrong
            + " not as due");
        if (wrong != 0 || checks == 0) {
            System.exit(1);
        }
    }

    /** Feeds four bytes a call: an object is good for 512 calls. */
    static void feed(RingWars x, String text) {
        for (int at = 0; at < text.length(); at += 4) {
            int n = Math.min(4, text.length() - at);
            int bytes = 0;
            for (int k = 0; k < n; k++) {
                bytes = bytes << 8 | text.charAt(at + k);
            }
            x.feed(bytes, n);
        }
    }

    static int fighter(RingWars x, String text) {
        feed(x, text);
        return x.fighter();
    }

    /** A new object with these fighters. */
    static RingWars with(String... texts) {
        RingWars x = new RingWars();
        for (String text : texts) {
            if (fighter(x, text) < 0) {
                throw new IllegalStateException("no fighter: " + text);
            }
        }
        return x;
    }

    /** A fighter from a tape, five items an order; tape 5 is used for it. */
    static int loaded(RingWars x, int... items) {
        x.tape(5, 1, items.length);
        for (int i = 0; i < items.length; i++) {
            x.item(5, i, items[i]);
        }
        return x.load(5, 0, items.length / 5);
    }

    /** A cell's KIND, MODE and NUMBER of A, of B, OWNER and HEAT. */
    static String cell(RingWars x, int cell) {
        StringBuilder all = new StringBuilder();
        for (int what = 0; what <= 6; what++) {
            all.append(what == 0 ? "" : " ").append(x.cell(cell, what));
        }
        return all.toString();
    }

    /** All cells. */
    static String ring(RingWars x) {
        StringBuilder all = new StringBuilder();
        int cells = x.count(0);
        for (int cell = 0; cell < cells; cell++) {
            all.append(cell == 0 ? "" : ", ").append(cell(x, cell));
        }
        return all.toString();
    }

    /** All that can be seen of the war that is set. */
    static String war(RingWars x) {
        StringBuilder all = new StringBuilder(ring(x));
        for (int side = 0; side < x.count(5); side++) {
            all.append("; side ").append(side).append(" at ").append(threads(x, side)).append(", died ");
            all.append(x.died(side, 0)).append(" by ").append(x.died(side, 1));
        }
        for (int what = 0; what < 4; what++) {
            all.append("; state ").append(x.state(what));
        }
        return all.toString();
    }

    static String threads(RingWars x, int side) {
        StringBuilder all = new StringBuilder();
        for (int i = 0; i < x.thread(side, -1); i++) {
            all.append(i == 0 ? "" : " ").append(x.thread(side, i));
        }
        return all.toString();
    }

    static String order(RingWars x, int fighter, int i) {
        StringBuilder all = new StringBuilder();
        for (int what = 0; what <= 4; what++) {
            all.append(what == 0 ? "" : " ").append(x.of(fighter, i, what));
        }
        return all.toString();
    }

    static String trace(RingWars x) {
        StringBuilder all = new StringBuilder();
        for (int i = 0; i < x.count(7); i++) {
            all.append(i == 0 ? "" : " ").append(x.trace(i));
        }
        return all.toString();
    }
}
