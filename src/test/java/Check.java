import java.io.IOException;
import java.nio.file.Files;
import java.nio.file.Path;

/**
 * What tests by sentences share: the sentence of the document that is being tested, which must
 * stand there word by word, and the answers that are due.
 */
final class Check {
    static final int LOW = -1000000000;
    static final int BEYOND = LOW - 1;
    static final int NONE = LOW - 2;
    static final int STATE = LOW - 3;
    static final int FULL = LOW - 4;
    static final int KIND = LOW - 5;
    static final int BIG = LOW - 6;
    static final int LEAST = Integer.MIN_VALUE;
    static final int MOST = Integer.MAX_VALUE;
    /** Sums of waits of SIZE 60, the most that a SLOT holds; one w more is too much. */
    static final String SIXTY = "w9+w9+w9+w9+w9+w9+w5";
    static final String SIXTY_ONE = "w9+w9+w9+w9+w9+w9+w6";

    private static final Path DOCUMENT = Path.of("../shared/DOC.md");
    private static String document;
    private static String sentence = "";
    private static int sentences;
    private static int asked;
    private static int wrong;

    private Check() {
    }

    /** What comes next tests this part of the document. */
    static void says(int promise, String words) {
        sentence = (promise == 0 ? "terms: " : promise + ": ") + words;
        sentences++;
        String part = promise == 0 ? terms() : promised(promise);
        if (part != null && !part.contains(plain(words))) {
            wrong++;
            System.out.println("the document doesn't say (" + sentence + ")");
        }
    }

    static void due(String what, long got, long want) {
        asked++;
        if (got != want) {
            wrong++;
            System.out.println(sentence + " [" + what + "]: answered " + got + ", due is " + want);
        }
    }

    static void finish() {
        System.out.println(sentences + " sentences, " + asked + " answers, " + wrong + " wrong");
        if (wrong != 0) {
            System.exit(1);
        }
    }

    private static String plain(String words) {
        return words.replaceAll("\\s+", " ").trim();
    }

    /** The document, or null where there is none beside the checkout. */
    private static String document() {
        if (document == null && Files.isReadable(DOCUMENT)) {
            try {
                document = plain(Files.readString(DOCUMENT));
            } catch (IOException e) {
                System.out.println("can't read " + DOCUMENT);
            }
        }
        return document;
    }

    private static String terms() {
        String all = document();
        return all == null ? null : all.substring(0, all.indexOf("## Promise 1:"));
    }

    private static String promised(int promise) {
        String all = document();
        if (all == null) {
            return null;
        }
        int from = all.indexOf("## Promise " + promise + ":");
        int to = all.indexOf("## ", from + 3);
        return from < 0 || to < 0 ? "" : all.substring(from, to);
    }

    static int read(GatheredPoints x, int slot, String text) {
        Feed.text(x, text);
        return x.game(slot);
    }

    static int lay(GatheredPoints x, int slot, String cells) {
        Feed.text(x, cells);
        return x.strip(slot);
    }

    static void row(GatheredPoints x, int sheet, int bits, int... numbers) {
        x.sheet(sheet, bits, numbers.length);
        for (int i = 0; i < numbers.length; i++) {
            x.put(sheet, i, numbers[i]);
        }
    }

    /** A SLOT holds a number that may be too great for a TEXT; SHEET 3 is lent for it. */
    static void plain(GatheredPoints x, int slot, int number) {
        row(x, 3, 32, number);
        x.ladder(slot, 3);
        x.sheet(3, 0, 0);
    }

    /** A new object whose slots 0, 1, .. hold the games of some texts. */
    static GatheredPoints with(String... texts) {
        GatheredPoints x = new GatheredPoints();
        for (int s = 0; s < texts.length; s++) {
            int size = read(x, s, texts[s]);
            due("'" + texts[s] + "' is a game", size > 0 ? 1 : size, 1);
        }
        return x;
    }

    /** That a SLOT holds the GAME of a text; SLOT 7 (or 6) is lent for it, and lost. */
    static void holds(String what, GatheredPoints x, int slot, String text) {
        int lent = slot == 7 ? 6 : 7;
        int size = read(x, lent, text);
        due("'" + text + "' is a game", size > 0 ? 1 : size, 1);
        due(what + ": the SIZE is that of " + text, x.gameOf(slot, 0), size);
        due(what + " is " + text, x.order(slot, lent), 0);
    }
}
