import java.util.ArrayList;
import java.util.List;

/**
 * Nothing by draws here: every short text behind some beginnings, every way in which stones can
 * lie on a strip, every pair of some small games, each held against PlainPoints and PlainText.
 */
public final class EveryTest {
    private static final String SIGNS = "5w-<|>:,+x";
    private static final String[] BEGINNINGS = {"", "<", "<5|", "<:", "<:-", "<:5", "<:-55", "<w1|:3", "<5|5", "<5|5>", "5+", "<5,", "55", "555",
        "w", "w5", "-<5|5", "--------", "-------", "<<<<<<<<", "<<<<<<<", "<<<<<<<<5|5>", "-<-<-<-<", "-<-<-<-5"};
    private static final int CALLS = 512;
    private static int asked;
    private static int wrong;

    private static GatheredPoints real;
    private static PlainPoints plain;
    private static int used;

    public static void main(String[] args) {
        everyText();
        everyStrip();
        everyPair();
        System.out.println(asked + " answers, " + wrong + " wrong");
        if (wrong != 0) {
            System.exit(1);
        }
    }

    private static void due(String what, int got, int want) {
        asked++;
        if (got != want) {
            wrong++;
            System.out.println(what + ": answered " + got + ", due is " + want);
        }
    }

    /** An object may be used for so many calls; another one is made ahead of those beyond. */
    private static void fresh(int calls) {
        if (real == null || used + calls > CALLS) {
            real = new GatheredPoints();
            plain = new PlainPoints();
            used = 0;
        }
        used += calls;
    }

    private static int bring(String text) {
        int calls = 0;
        for (int k = 0; k < text.length(); k += 8) {
            String part = text.substring(k, Math.min(text.length(), k + 8));
            long word = 0;
            for (int i = 0; i < part.length(); i++) {
                word |= (long) part.charAt(i) << 8 * i;
            }
            due("feed", real.feed(word, part.length()), plain.feed(word, part.length()));
            calls++;
        }
        return calls;
    }

    private static void everyText() {
        for (String beginning : BEGINNINGS) {
            for (int n = 0; n <= 4; n++) {
                int all = (int) Math.pow(SIGNS.length(), n);
                for (int k = 0; k < all; k++) {
                    StringBuilder text = new StringBuilder(beginning);
                    for (int rest = k, i = 0; i < n; i++, rest /= SIGNS.length()) {
                        text.append(SIGNS.charAt(rest % SIGNS.length()));
                    }
                    oneText(text.toString());
                }
            }
        }
    }

    private static void oneText(String text) {
        fresh(6);
        Feed.text(real, text);
        int got = real.game(0);
        int fault = PlainText.fault(text);
        due("'" + text + "'", got > 0 ? 1 : got, fault < 0 ? 1 : -10 - fault);
    }

    private static void everyStrip() {
        for (int n = 1; n <= 8; n++) {
            int all = (int) Math.pow(3, n);
            for (int k = 0; k < all; k++) {
                StringBuilder cells = new StringBuilder();
                for (int rest = k, i = 0; i < n; i++, rest /= 3) {
                    // points that differ from cell to cell, so that it is told which were gathered
                    cells.append(rest % 3 == 0 ? (char) ('0' + (i * 3 + k) % 10) : rest % 3 == 1 ? 'l' : 'r');
                }
                oneStrip(cells.toString());
            }
        }
    }

    private static void oneStrip(String cells) {
        fresh(15);
        bring(cells);
        due(cells, real.strip(0), plain.strip(0));
        for (int what = 0; what <= 12; what++) {
            due(cells + ", " + what, real.gameOf(0, what), plain.gameOf(0, what));
        }
    }

    private static void everyPair() {
        String[] sides = {":-1", ":0", ":1", "0", "1", "-1", "0,1", "-1,1", "w1", "-w1", "<1|-1>", "<1|-1>,0", "<0|1>", "<:-1|1>", "<-1|:1>,1"};
        List<String> games = new ArrayList<>();
        for (String left : sides) {
            for (String right : sides) {
                String text = "<" + left + "|" + right + ">";
                fresh(6);
                bring(text);
                due(text, real.game(0), plain.game(0));
                due(text + " is SURE", real.gameOf(0, 12), plain.gameOf(0, 12));
                if (plain.gameOf(0, 12) == 1) {
                    games.add(text);
                }
            }
        }
        for (String one : games) {
            for (String other : games) {
                onePair(one, other);
            }
        }
    }

    private static void onePair(String one, String other) {
        fresh(40);
        bring(one);
        due(one, real.game(0), plain.game(0));
        bring(other);
        due(other, real.game(1), plain.game(1));
        String both = one + " and " + other;
        due("compare " + both, real.compare(0, 1), plain.compare(0, 1));
        due("order " + both, real.order(0, 1), plain.order(0, 1));
        for (int side = 0; side < 2; side++) {
            for (int i = 0; i < 2; i++) {
                due("answer " + both, real.answer(0, 1, side, i), plain.answer(0, 1, side, i));
            }
        }
        due("join " + both, real.join(0, 1, 2), plain.join(0, 1, 2));
        due("reduce the SUM of " + both, real.reduce(2, 3), plain.reduce(2, 3));
        due("REDUCED is alike, " + both, real.compare(2, 3), plain.compare(2, 3));
        due("order of REDUCED, " + both, real.order(2, 3), plain.order(2, 3));
    }
}
