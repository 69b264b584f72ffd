/** For each promise of the document: ordinary calls, the edges that it names, and wrong inputs. */
public final class PromiseTest {
    private static final int LOW = -1000000000;
    private static final int BEYOND = LOW - 1;
    private static final int NONE = LOW - 2;
    private static final int STATE = LOW - 3;
    private static final int FULL = LOW - 4;
    private static final int KIND = LOW - 5;
    private static final int BIG = LOW - 6;
    private static final int LEAST = Integer.MIN_VALUE;
    private static final int MOST = Integer.MAX_VALUE;

    private static int wrong;
    private static int asked;

    public static void main(String[] args) {
        newObject();
        feed();
        gameValues();
        gameFaults();
        gameErrors();
        strip();
        ladder();
        waits();
        join();
        negate();
        option();
        gameOf();
        gameOfWaits();
        order();
        compare();
        answer();
        reduce();
        score();
        best();
        begin();
        go();
        play();
        loose();
        back();
        matchOf();
        moved();
        board();
        sheet();
        put();
        number();
        shift();
        judge();
        seed();
        imageAndRestore();
        count();
        told();
        System.out.println(asked + " answers, " + wrong + " wrong");
        if (wrong != 0) {
            System.exit(1);
        }
    }

    private static void due(String what, long got, long want) {
        asked++;
        if (got != want) {
            wrong++;
            System.out.println(what + ": answered " + got + ", due is " + want);
        }
    }

    private static int read(GatheredPoints x, int slot, String text) {
        Feed.text(x, text);
        return x.game(slot);
    }

    /** A new object whose slots 0, 1, .. hold the games of some texts. */
    private static GatheredPoints with(String... texts) {
        GatheredPoints x = new GatheredPoints();
        for (int s = 0; s < texts.length; s++) {
            int size = read(x, s, texts[s]);
            due("'" + texts[s] + "' is a game", size > 0 ? 1 : size, 1);
        }
        return x;
    }

    private static void holds(String what, GatheredPoints x, int slot, String text) {
        GatheredPoints y = new GatheredPoints();
        due("'" + text + "' is a game", read(y, 0, text) > 0 ? 1 : 0, 1);
        due(what + ": SIZE as that of " + text, x.gameOf(slot, 0), y.gameOf(0, 0));
        // the same object must hold both for the ORDER: the last slot is lent, and given back
        int lent = slot == 7 ? 6 : 7;
        x.image();
        Feed.text(x, text);
        x.game(lent);
        due(what + " is " + text, x.order(slot, lent), 0);
        x.restore();
    }

    private static void newObject() {
        GatheredPoints x = new GatheredPoints();
        for (int s = 0; s < 8; s++) {
            due("new: SIZE", x.gameOf(s, 0), 1);
            due("new: Left's number", x.gameOf(s, 4), 0);
            due("new: Right's number", x.gameOf(s, 5), 0);
        }
        for (int k = 1; k <= 6; k++) {
            due("new: told", x.told(k), 0);
        }
        due("new: SIZES", x.count(0), 8);
        due("new: SURE ones", x.count(1), 8);
        due("new: TAPE", x.count(2), 0);
        due("new: MOVES", x.count(3), 0);
        due("new: z", x.count(4), 1);
        due("new: no IMAGE", x.restore(), NONE);
        due("new: no MATCH", x.matchOf(0), NONE);
        for (int k = 0; k < 4; k++) {
            due("new: SHEETS are missing", x.number(k, 0), NONE);
        }
        GatheredPoints y = new GatheredPoints();
        due("objects are apart", y.told(2), 0);
    }

    private static void feed() {
        GatheredPoints x = new GatheredPoints();
        due("feed, none", x.feed(0L, 0), BEYOND);
        due("feed, nine", x.feed(0L, 9), BEYOND);
        due("feed, below", x.feed(0L, -1), BEYOND);
        due("feed, least", x.feed(0L, LEAST), BEYOND);
        due("feed, a byte", x.feed(0x7777777777777731L, 1), 1);
        due("feed, lowest first", x.feed(0x99999999352b32L, 3), 4);
        due("feed, read", x.game(0), 1);
        due("feed, 12+5", x.gameOf(0, 4), 17);
        for (int k = 1; k <= 12; k++) {
            due("feed, eights", x.feed(-1L, 8), 8 * k);
        }
        due("feed, past 100", x.feed(0L, 5), FULL);
        due("feed, nothing came", x.count(2), 96);
        due("feed, up to 100", x.feed(0L, 4), 100);
        due("feed, 101", x.feed(0L, 1), FULL);
        due("feed, BEYOND is asked first", x.feed(0L, 9), BEYOND);
        due("feed, highest byte", x.game(0), -10);
        x.feed(0x3100000000000000L, 8);
        due("feed, a byte 0 is no TEXT", x.game(0), -10);
    }

    private static void gameValues() {
        String[] texts = {"5", "-5", "007", "-0", "999", "1+2", "-1+2", "1+-2", "--4", "---4+1", "-<:1|:3>", "w0",
            "12+345", "--------5", "--------1+--------1", "<:1|:2>+<:3|:7>", "<:-5|:-5>", "<:-999|:-999>", "w0+-w0"};
        int[] lefts = {5, -5, 7, 0, 999, 3, 1, -1, 4, -3, -3, 0, 357, 5, 2, 4, -5, -999, 0};
        int[] rights = {5, -5, 7, 0, 999, 3, 1, -1, 4, -3, -1, 0, 357, 5, 2, 9, -5, -999, 0};
        for (int k = 0; k < texts.length; k++) {
            GatheredPoints x = with(texts[k]);
            due(texts[k] + " SIZE", x.gameOf(0, 0), 1);
            due(texts[k] + " Left", x.gameOf(0, 4), lefts[k]);
            due(texts[k] + " Right", x.gameOf(0, 5), rights[k]);
        }
        GatheredPoints x = new GatheredPoints();
        due("options are held once", read(x, 0, "<5,5,2+3|1>"), 3);
        due("one of Left's", x.gameOf(0, 2), 1);
        due("shared followers", read(x, 0, "<<1|2>|<1|2>,1>"), 4);
        due("w9", read(x, 0, "w9"), 10);
        due("SIZE 60 fits", read(x, 1, "w9+w9+w9+w9+w9+w9+w5"), 60);
        due("DEPTH of it", x.gameOf(1, 1), 59);
        due("Left moves in a wait", x.gameOf(0, 2), 1);
        due("Right doesn't", x.gameOf(0, 5), 0);
        due("deep", read(x, 2, "<<<<<<<<1|2>|3>|4>|5>|6>|7>|8>|9>"), 17);
        x.option(2, 0, 0, 2);
        holds("an OPTION of it", x, 2, "<<<<<<<1|2>|3>|4>|5>|6>|7>|8>");
        due("of 100 bytes", read(x, 3, "1+1+1+1+1+1+1+1+1+1+1+1+1+1+1+1+1+1+1+1+1+1+1+1+1+1+1+1+1+1+1+1+1+1+1+1"
                + "+1+1+1+1+1+1+1+1+1+1+1+1+1+10"), 1);
        due("their sum", x.gameOf(3, 4), 59);
    }

    private static void gameFaults() {
        String[] texts = {"", "1234", "w", "w12", "wx", "w-1", "+", "1+", "1++2", "<", "<1", "<1|", "<1|2", "<1|2>3",
            "<:1+2|3>", "<:|", "<:-|", "<:--1|2>", "<:1,2|3>", "<1,|2>", "<,1|2>", "<1>", "<1|2|3>", "1,2", "1|2",
            "1>", "1 ", " 1", "-", "1-2", "--", ":1", "<|1>", "<1|>", "---------5", "<<<<<<<<<", "<<<<<<<<:1",
            "-<-<-<-<-", "<--------1|1>", "<:1234|1>", "<:12|-:1>", "<1|:1>|", "W1", "<1|2>+", "<1|2>,", "<1:2>",
            "<:w1|1>", "\u00b1", "1\u00ff", "<1|2>>", "l", "<1,<:1|:2>,:3|4>"};
        int[] faults = {0, 3, 1, 2, 1, 1, 0, 2, 2, 1, 2, 3, 4, 5, 3, 2, 3, 3, 3, 3, 1, 2, 4, 1, 1, 1, 1, 0, 1, 1, 2, 0,
            1, 3, 8, 8, 10, 8, 8, 5, 6, 6, 0, 6, 5, 2, 2, 0, 1, 5, 0, 11};
        for (int k = 0; k < texts.length; k++) {
            GatheredPoints x = with("7");
            due("FAULT of " + texts[k], read(x, 0, texts[k]), -10 - faults[k]);
            due("the SLOT stays", x.gameOf(0, 4), 7);
            due("the TAPE is empty", x.count(2), 0);
            due("it is no ERROR", x.told(1) + x.told(2) + x.told(3) + x.told(4) + x.told(5) + x.told(6), 0);
        }
        GatheredPoints x = new GatheredPoints();
        due("- closes with its U", read(x, 0, "<-------1+-------1|1>"), 3);
        due("< closes, too", read(x, 0, "<<<<<<<<1|1>|1>|1>|1>|1>|1>|1>+<<<<<<<1|1>|1>|1>|1>|1>|1>|1>|1>") > 0 ? 1 : 0, 1);
        due("a FAULT is told ahead of FULL", read(x, 1, "<1|2>+<3|5>+<9|17>+<33|65>+"), -10 - 27);
    }

    private static void gameErrors() {
        GatheredPoints x = with("4");
        Feed.text(x, "12");
        due("no such SLOT", x.game(8), BEYOND);
        due("nor that", x.game(-1), BEYOND);
        due("THE TAPE stays", x.count(2), 2);
        due("and can be read", x.game(1), 1);
        due("that is 12", x.gameOf(1, 4), 12);
        due("27 fit", read(x, 2, "<1|2>+<3|5>+<9|17>"), 27);
        due("81 don't", read(x, 0, "<1|2>+<3|5>+<9|17>+<33|65>"), FULL);
        due("the SLOT stays", x.gameOf(0, 4), 4);
        due("THE TAPE is empty", x.count(2), 0);
        due("61 of waits don't", read(x, 0, "w9+w9+w9+w9+w9+w9+w6"), FULL);
        due("60 with a frame about it don't", read(x, 0, "<w9+w9+w9+w9+w9+w9+w5|1>"), FULL);
        due("59 with a 0 in it do", read(x, 0, "<w9+w9+w9+w9+w9+w9+w4|0>"), 60);
        due("options together don't", read(x, 0, "<<1|2>+<3|5>+<9|17>,-<41|52>+-<63|75>+-<99|87>|1+<1|2>+<3|6>>"), FULL);
        due("a part is enough", read(x, 0, "1+-<<1|2>+<3|5>+<9|17>+<33|65>|:5>"), FULL);
        due("told", x.told(4), 5);
    }

    private static int lay(GatheredPoints x, int slot, String cells) {
        Feed.text(x, cells);
        return x.strip(slot);
    }

    private static void strip() {
        GatheredPoints x = new GatheredPoints();
        String[] cells = {"l", "r", "5", "0", "lr", "rl", "90", "12345678", "ll", "l5", "5r", "5l", "r5", "l0r", "l3r", "l12r",
            "l1r4", "rl10", "01rl", "l1l", "l7lr"};
        String[] games = {"0", "0", "<:-5|:5>", "0", "0", "0", "<:-9|:9>", "<:-36|:36>", "0", "<5|:5>", "<:-5|-5>",
            "<:-5|:5>", "<:-5|:5>", "<0|0>", "<3|-3>", "<<3|-1>|<-1|-3>>", "<<:-3|:5>|<:-5|:3>>",
            "<<1|:1>|:1>", "<:-1|<:-1|-1>>", "<1|:1>", "<7|:7>"};
        for (int k = 0; k < cells.length; k++) {
            due("strip " + cells[k], lay(x, 0, cells[k]) > 0 ? 1 : 0, 1);
            due("THE TAPE is empty", x.count(2), 0);
            due("it is SURE", x.gameOf(0, 12), 1);
            holds("strip " + cells[k], x, 0, games[k]);
        }
        due("eight cells", lay(x, 0, "l000000r"), 7);
        due("stones in a row", lay(x, 0, "llll0000"), 17);
        due("too many", lay(x, 1, "ll5939rr"), FULL);
        due("the SLOT stays", x.gameOf(1, 0), 1);
        due("THE TAPE is empty", x.count(2), 0);
        due("no byte", x.strip(0), -10);
        due("wrong at first", lay(x, 0, "x"), -10);
        due("wrong", lay(x, 0, "l0Lr"), -12);
        due("the ninth", lay(x, 0, "l000000r0"), -18);
        due("one ahead of the ninth", lay(x, 0, "l00-000r0000000"), -13);
        due("a high byte", lay(x, 0, "l\u00ff"), -11);
        due("the SLOT stays", x.gameOf(0, 0), 17);
        Feed.text(x, "l5");
        due("no such SLOT", x.strip(8), BEYOND);
        due("nor that", x.strip(-1), BEYOND);
        due("THE TAPE stays", x.count(2), 2);
        due("and is a strip", x.strip(7), 2);
    }

    private static void row(GatheredPoints x, int sheet, int bits, int... numbers) {
        x.sheet(sheet, bits, numbers.length);
        for (int i = 0; i < numbers.length; i++) {
            x.put(sheet, i, numbers[i]);
        }
    }

    private static void ladder() {
        GatheredPoints x = new GatheredPoints();
        row(x, 0, 8, 9, -4, 7, 1);
        due("ladder", x.ladder(0, 0), 7);
        holds("ladder", x, 0, "<9|<-4|<7|1>>>");
        row(x, 1, 16, -300);
        due("of one", x.ladder(1, 1), 1);
        due("it is the number", x.gameOf(1, 5), -300);
        row(x, 1, 16, 2, 2);
        due("of the same", x.ladder(1, 1), 2);
        row(x, 2, 32, 1, 2, 3, 4, 5, 6, 7, 8, 9, 10, 11, 12, 13, 14, 15, 16, 17, 18, 19, 20);
        due("of twenty", x.ladder(2, 2), 39);
        due("DEPTH", x.gameOf(2, 1), 19);
        row(x, 3, 32, 99999, -99999);
        due("greatest", x.ladder(3, 3), 3);
        x.put(3, 0, 100000);
        due("too great", x.ladder(3, 3), BIG);
        row(x, 3, 32, 0, 5, -100000);
        due("too low", x.ladder(3, 3), BIG);
        x.put(3, 2, LEAST);
        due("least int", x.ladder(3, 3), BIG);
        due("the SLOT stays", x.gameOf(3, 0), 3);
        x.sheet(3, 8, 0);
        due("no number", x.ladder(3, 3), NONE);
        x.sheet(3, 0, 0);
        due("missing", x.ladder(3, 3), NONE);
        due("no SLOT", x.ladder(8, 3), BEYOND);
        due("no SLOT", x.ladder(-1, 0), BEYOND);
        due("no SHEET", x.ladder(0, 4), BEYOND);
        due("no SHEET", x.ladder(0, -1), BEYOND);
    }

    private static void waits() {
        GatheredPoints x = new GatheredPoints();
        for (int n = 0; n <= 20; n++) {
            due("waits " + n, x.waits(3, n), n + 1);
            due("DEPTH", x.gameOf(3, 1), n);
            due("Left's", x.gameOf(3, 2), n == 0 ? 0 : 1);
            due("Right is SHUT", x.gameOf(3, 5), 0);
        }
        due("too many", x.waits(3, 21), BEYOND);
        due("below", x.waits(3, -1), BEYOND);
        due("no SLOT", x.waits(8, 1), BEYOND);
        due("no SLOT", x.waits(-1, 1), BEYOND);
        due("the SLOT stays", x.gameOf(3, 0), 21);
        x.waits(0, 2);
        holds("waits 2", x, 0, "<<0|:0>|:0>");
    }

    private static void join() {
        GatheredPoints x = with("<1|2>", "<3|5>", "<:1|0>", "<:2|7>", "4");
        due("join", x.join(0, 1, 5), 9);
        holds("join", x, 5, "<<4|6>,<4|5>|<5|7>,<6|7>>");
        due("SHUT on Left", x.join(2, 3, 5), 4);
        due("with both numbers", x.gameOf(5, 4), 3);
        due("Right has both", x.gameOf(5, 3), 2);
        due("with a number", x.join(4, 0, 5), 3);
        holds("with a number", x, 5, "<5|6>");
        due("with itself, into itself", x.join(0, 0, 0), 6);
        holds("with itself", x, 0, "<<2|3>|<3|4>>");
        x.waits(0, 20);
        x.waits(1, 20);
        due("waits", x.join(0, 1, 0), 41);
        x.waits(1, 19);
        due("60 fit", x.join(0, 1, 2), 60);
        x.waits(1, 20);
        due("61 don't", x.join(0, 1, 2), FULL);
        due("the SLOT stays", x.gameOf(2, 0), 60);
        row(x, 0, 32, 99999);
        x.ladder(3, 0);
        x.waits(5, 0);
        due("99999 fits", x.join(3, 5, 6), 1);
        read(x, 5, "1");
        due("100000 doesn't", x.join(3, 5, 6), BIG);
        due("the SLOT stays", x.gameOf(6, 4), 99999);
        x.negate(3, 3);
        x.negate(5, 5);
        due("nor -100000", x.join(5, 3, 6), BIG);
        read(x, 5, "<:-1|5>");
        due("a side is enough", x.join(5, 3, 6), BIG);
        read(x, 5, "<1|2>+<3|5>+<9|17>");
        x.negate(3, 3);
        row(x, 0, 32, 40000);
        x.ladder(3, 0);
        due("27 high ones", x.join(5, 3, 5), 27);
        due("still", x.join(5, 3, 5), 27);
        read(x, 6, "<33|65>");
        x.join(6, 3, 6);
        due("FULL is asked ahead of BIG", x.join(5, 6, 7), FULL);
        due("no SLOT", x.join(8, 0, 0), BEYOND);
        due("no SLOT", x.join(0, 8, 0), BEYOND);
        due("no SLOT", x.join(0, 0, 8), BEYOND);
        due("no SLOT", x.join(0, -1, 0), BEYOND);
    }

    private static void negate() {
        GatheredPoints x = with("<5,<1|2>|:3>");
        due("negate", x.negate(0, 1), 5);
        holds("negate", x, 1, "<:-3|-5,<-2|-1>>");
        due("again", x.negate(1, 1), 5);
        due("is as at first", x.order(0, 1), 0);
        x.waits(2, 3);
        due("of waits", x.negate(2, 2), 4);
        holds("of waits", x, 2, "<:0|<:0|<:0|0>>>");
        due("no SLOT", x.negate(8, 0), BEYOND);
        due("no SLOT", x.negate(0, -1), BEYOND);
    }

    private static void option() {
        GatheredPoints x = with("<<1|2>,7,-3|<:0|5>>", "<3|:5>");
        due("Left's first", x.option(0, 0, 0, 2), 1);
        due("is -3", x.gameOf(2, 4), -3);
        due("Left's second", x.option(0, 0, 1, 2), 1);
        due("is 7", x.gameOf(2, 4), 7);
        due("Left's third", x.option(0, 0, 2, 2), 3);
        holds("Left's third", x, 2, "<1|2>");
        due("no fourth", x.option(0, 0, 3, 2), NONE);
        due("Right's", x.option(0, 1, 0, 3), 2);
        holds("Right's", x, 3, "<:0|5>");
        due("no second", x.option(0, 1, 1, 3), NONE);
        due("none below", x.option(0, 0, -1, 3), NONE);
        due("none at all", x.option(1, 1, 0, 3), NONE);
        due("no SLOT", x.option(8, 0, 0, 0), BEYOND);
        due("no SLOT", x.option(0, 0, 0, 8), BEYOND);
        due("no side", x.option(0, 2, 0, 0), BEYOND);
        due("no side", x.option(0, -1, 9, 0), BEYOND);
        due("into itself", x.option(0, 1, 0, 0), 2);
        due("then on", x.option(0, 1, 0, 0), 1);
        due("is 5", x.gameOf(0, 5), 5);
    }

    private static void gameOf() {
        GatheredPoints x = with("<<1|2>,7,-3|<:0|5>>", "<:0|1>", "<:3|:2>", "<:2|:3>", "<:1|0>", "<0|:1>", "<2|:1>", "<:0|<3|-1>>");
        int[] whats = {0, 1, 2, 3, 4, 5, 6, 7, 12};
        int[] wants = {8, 2, 3, 1, NONE, NONE, 7, 0, 1};
        for (int k = 0; k < whats.length; k++) {
            due("gameOf " + whats[k], x.gameOf(0, whats[k]), wants[k]);
        }
        due("SHUT on Left", x.gameOf(1, 4), 0);
        due("not on Right", x.gameOf(1, 5), NONE);
        due("no OPTIONS of Left's", x.gameOf(1, 2), 0);
        due("LEFT SCORE", x.gameOf(1, 6), 0);
        due("RIGHT SCORE", x.gameOf(1, 7), 1);
        due("its own sides: not SURE", x.gameOf(2, 12), 0);
        due("its own sides: SURE", x.gameOf(3, 12), 1);
        due("a lesser one behind Left's", x.gameOf(4, 12), 0);
        due("a lesser one behind Right's", x.gameOf(5, 12), 1);
        due("a greater one behind Right's", x.gameOf(6, 12), 0);
        due("two steps on", x.gameOf(7, 12), 0);
        read(x, 7, "<:-1|<3|-1>>");
        due("the same number is fine", x.gameOf(7, 12), 1);
        read(x, 7, "<<:0|<3|-1>>|5>");
        due("of a FOLLOWER", x.gameOf(7, 12), 0);
        due("no SLOT", x.gameOf(8, 0), BEYOND);
        due("no SLOT", x.gameOf(-1, 0), BEYOND);
        due("no such", x.gameOf(0, 13), BEYOND);
        due("no such", x.gameOf(0, -1), BEYOND);
    }

    private static void gameOfWaits() {
        // one wait turns -5 into 7: Right comes to <-5|7>, Left waits, Right must go to 7
        GatheredPoints x = with("<0|<-5|7>>", "<5|-3>", "<-5|5>");
        due("RIGHT SCORE", x.gameOf(0, 7), -5);
        due("CEILING", x.gameOf(0, 9), 7);
        due("PRICE for Left", x.gameOf(0, 10), 1);
        due("FLOOR", x.gameOf(0, 8), 0);
        due("PRICE for Right", x.gameOf(0, 11), 0);
        x.negate(0, 4);
        due("LEFT SCORE of the NEGATIVE", x.gameOf(4, 6), 5);
        due("FLOOR of the NEGATIVE", x.gameOf(4, 8), -7);
        due("PRICE for Right of the NEGATIVE", x.gameOf(4, 11), 1);
        due("CEILING of the NEGATIVE", x.gameOf(4, 9), 0);
        due("PRICE for Left of the NEGATIVE", x.gameOf(4, 10), 0);
        due("hot: FLOOR", x.gameOf(1, 8), 5);
        due("hot: CEILING", x.gameOf(1, 9), -3);
        due("cold: FLOOR", x.gameOf(2, 8), -5);
        due("cold: CEILING", x.gameOf(2, 9), 5);
        // Left needs a wait at <-5|..> and another one at <-9|7>
        read(x, 3, "<0|<-5|<-9|7>>>");
        due("two waits: RIGHT SCORE", x.gameOf(3, 7), -5);
        due("two waits: CEILING", x.gameOf(3, 9), 7);
        due("two waits: PRICE", x.gameOf(3, 10), 2);
        for (int what = 8; what < 12; what++) {
            due("no SLOT", x.gameOf(9, what), BEYOND);
        }
        // what isn't SURE has them, too
        read(x, 3, "<:3|:-2>");
        due("not SURE: FLOOR", x.gameOf(3, 8), 3);
        due("not SURE: CEILING", x.gameOf(3, 9), -2);
    }

    private static void order() {
        String[] rows = {"-1", "<:0|:-1>", "0", "<:0|:1>", "<:1|:0>", "1", "<:0|0>", "<:0|1>", "<:1|0>", "<0|:0>", "<0|:1>",
            "<0|0>", "<0|1>", "<0|0,1>", "<1|:0>", "<1|0>", "<0,1|:0>", "<0,2|:0>", "<1,2|:0>", "<0,1,2|:0>", "<:9|<0|0>>",
            "<:9|0,<0|0>>", "<0|<0|0>>", "<<:0|0>|:9>", "<<0|0>|:9>", "<<0|1>|:0>", "<0,<0|0>|:0>", "<1,<:0|0>|:0>",
            "<<:0|0>,<0|0>|:0>", "<0,1,<0|0>|:0>", "<<<0|:0>|:0>|:-9>", "w4"};
        GatheredPoints x = new GatheredPoints();
        int calls = 0;
        for (int i = 0; i < rows.length; i++) {
            for (int j = 0; j < rows.length; j++) {
                if (calls > 490) {
                    x = new GatheredPoints();
                    calls = 0;
                }
                calls += Feed.text(x, rows[i]) + 3;
                x.game(0);
                calls += Feed.text(x, rows[j]);
                x.game(1);
                due("order of " + rows[i] + " and " + rows[j], x.order(0, 1), Integer.compare(i, j));
            }
        }
        due("no SLOT", x.order(8, 0), BEYOND);
        due("no SLOT", x.order(0, -1), BEYOND);
    }

    private static void compare() {
        String[] ones = {"1", "0", "<5|-3>", "w1", "-w1", "<1,2|0>", "<:0|1>", "<0|0>", "<0|:0>", "<3|1>", "<3|1>", "<4|1>", "<0|:9>"};
        String[] others = {"0", "1", "0", "0", "0", "<2|0>", "0", "0", "0", "2", "<3|1>", "<3|2>", "0"};
        int[] wants = {1, 2, 0, 1, 2, 3, 0, 0, 1, 0, 3, 0, 1};
        for (int k = 0; k < ones.length; k++) {
            GatheredPoints x = with(ones[k], others[k]);
            due("compare " + ones[k] + " with " + others[k], x.compare(0, 1), wants[k]);
            due("and back", x.compare(1, 0), (wants[k] & 1) * 2 + wants[k] / 2);
        }
        int[][] all = {{3, 2, 0, 2, 1}, {1, 3, 0, 0, 1}, {0, 0, 3, 0, 0}, {1, 0, 0, 3, 1}, {2, 2, 0, 2, 3}};
        GatheredPoints many = with("0", "1", "<5|-3>", "w1", "-w1");
        for (int k = 0; k < 50; k++) {
            due("compare " + k / 5 % 5 + " with " + k % 5, many.compare(k / 5 % 5, k % 5), all[k / 5 % 5][k % 5]);
        }
        GatheredPoints x = with("<:3|:2>", "0");
        due("not SURE", x.compare(0, 1), STATE);
        due("the other one", x.compare(1, 0), STATE);
        due("both", x.compare(0, 0), STATE);
        due("no SLOT", x.compare(0, 8), BEYOND);
        due("no SLOT", x.compare(-1, 0), BEYOND);
    }

    private static void answer() {
        GatheredPoints x = with("<1,2|-1,-2>", "<5|-3>+-<5|-3>", "0", "<:3|:2>", "<5|-3>", "<3,4|:9>", "<3|:9>");
        due("to Left's first", x.answer(0, 0, 0, 0), 0);
        due("to Left's second", x.answer(0, 0, 0, 1), 1);
        due("no third", x.answer(0, 0, 0, 2), NONE);
        due("none below", x.answer(0, 0, 1, -1), NONE);
        due("to Right's first", x.answer(0, 0, 1, 0), 0);
        due("to Right's second", x.answer(0, 0, 1, 1), 0);
        due("among those of x, Right's", x.answer(1, 2, 1, 0), 100);
        due("among those of x, Left's", x.answer(2, 1, 0, 0), 100);
        due("the same ones are one", x.answer(2, 1, 0, 1), NONE);
        due("a SHUT side has none", x.answer(2, 1, 1, 0), NONE);
        GatheredPoints y = with("0", "<<1|5,<:-3|-2>>|-2>");
        due("among those of x, the second", y.answer(0, 1, 0, 0), 101);
        y.negate(1, 2);
        due("among those of x, the second, Right's", y.answer(2, 0, 1, 0), 101);
        due("among those of g", x.answer(5, 6, 0, 0), 0);
        due("not SURE", x.answer(3, 2, 0, 0), STATE);
        due("not SURE", x.answer(2, 3, 0, 0), STATE);
        due("it isn't AT LEAST that", x.answer(4, 2, 0, 0), KIND);
        due("KIND is asked ahead of NONE", x.answer(4, 2, 0, 99), KIND);
        due("STATE is asked ahead of KIND", x.answer(3, 4, 0, 99), STATE);
        due("no SLOT", x.answer(8, 0, 0, 0), BEYOND);
        due("no SLOT", x.answer(0, 8, 0, 0), BEYOND);
        due("no side", x.answer(0, 0, 2, 0), BEYOND);
        due("BEYOND is asked first", x.answer(3, 3, -1, 0), BEYOND);
    }

    private static void reduce() {
        String[] texts = {"5", "<5|-3>", "<1,2|0>", "<3|1,2>", "<1,2,3|-1,-2,-3>", "<<1,2|0>|:9>", "w3", "<1,<:0|:2>|0>",
            "<<1|<0|2>>|3>", "<<3|<0|2>>|2>", "<0|<<3|2>|1>>", "<1|<<3|3>|:3>>", "<<3|<0|-2>>|<<1|3>|3>>",
            "<<:-3|<-3|0>>|<<2|3>|-3>>", "<<3|<0,2|-2>>|3>", "<1|<<2,3|3>|0>>", "<<3|<1|-2,2>>|1>",
            "<3,<:-3|<-1|2>>|<<3|3>|0>,2>", "<<3|<2|0,1>,<0|0>>|<<0|2>|0>>"};
        String[] wants = {"5", "<5|-3>", "<2|0>", "<3|1>", "<3|-3>", "<<2|0>|:9>", "w3", "<1,<:0|:2>|0>",
            "<0|3>", "<0|2>", "<0|2>", "<1|3>", "<0|3>",
            "<-3|3>", "<2|3>", "<1|3>", "<1|1>",
            "<3|2>", "<0|2>"};
        for (int k = 0; k < texts.length; k++) {
            GatheredPoints x = with(texts[k]);
            due("reduce " + texts[k], x.reduce(0, 1) > 0 ? 1 : 0, 1);
            holds("reduce " + texts[k], x, 1, wants[k]);
            due("the same as it", x.compare(0, 1), 3);
        }
        GatheredPoints x = with("<:3|:2>");
        due("not SURE", x.reduce(0, 1), STATE);
        due("no SLOT", x.reduce(0, 8), BEYOND);
        due("no SLOT", x.reduce(-1, 0), BEYOND);
        due("the SLOT stays", x.gameOf(1, 0), 1);
    }

    private static void score() {
        GatheredPoints x = with("<9|<-4|<7|1>>>", "<<9|5>|2>", "<8|<6|-1>>", "<:3|:5>", "<:-1|2>", "0");
        int[] sets = {1, 2, 4, 8, 16, 32, 56, 40, 24};
        int[] lefts = {9, 5, 8, 3, -1, 0, 2, 3, 2};
        int[] rights = {-4, 2, 6, 5, 2, 0, 5, 5, 5};
        for (int k = 0; k < sets.length; k++) {
            due("LEFT SCORE of " + sets[k], x.score(sets[k], 0), lefts[k]);
            due("RIGHT SCORE of " + sets[k], x.score(sets[k], 1), rights[k]);
        }
        x.join(0, 1, 6);
        due("as of the SUM", x.score(3, 0), x.gameOf(6, 6));
        due("as of the SUM", x.score(3, 1), x.gameOf(6, 7));
        x.join(6, 5, 6);
        due("as of the SUM", x.score(35, 0), x.gameOf(6, 6));
        for (int set : new int[] {0, -1, 15, 256, 257, 255, LEAST, MOST}) {
            due("no set: " + set, x.score(set, 0), BEYOND);
        }
        due("no side", x.score(1, 2), BEYOND);
        due("no side", x.score(1, -1), BEYOND);
        x.waits(0, 0);
        due("another GAME there", x.score(1, 0), 0);
    }

    private static void best() {
        GatheredPoints x = with("<1|0>", "<9|0>", "<9|-7>", "0", "<:1|5>", "<3,3+w1,3+w2|0>", "<5|-3>", "<5|-3>");
        due("the greater one", x.best(3, 0), 100);
        due("of one", x.best(1, 0), 0);
        due("Right's", x.best(7, 1), 200);
        due("the least SLOT", x.best(192, 0), 600);
        due("the least SLOT, Right's", x.best(192, 1), 600);
        due("the least number", x.best(32, 0), 500);
        due("SHUT in all", x.best(8, 0), NONE);
        due("SHUT on that side", x.best(24, 0), NONE);
        due("not on the other one", x.best(24, 1), 400);
        read(x, 0, "<1,7,3|2,-5,4>");
        due("Left's greatest", x.best(1, 0), 2);
        due("Right's least", x.best(1, 1), 0);
        for (int set : new int[] {0, -1, 15, 256, LEAST, MOST}) {
            due("no set: " + set, x.best(set, 0), BEYOND);
        }
        due("no side", x.best(1, 2), BEYOND);
        due("BEYOND is asked first", x.best(8, 2), BEYOND);
    }

    private static void begin() {
        GatheredPoints x = with("<1|0>", "0", "<:0|5>");
        due("begin", x.begin(1, 0), 0);
        due("OVER at once", x.begin(2, 1), 1);
        due("OVER for Left", x.begin(6, 0), 1);
        due("not for Right", x.begin(6, 1), 0);
        due("whose turn", x.matchOf(0), 1);
        for (int set : new int[] {0, -1, 15, 256, LEAST, MOST}) {
            due("no set: " + set, x.begin(set, 0), BEYOND);
        }
        due("no side", x.begin(1, 2), BEYOND);
        due("the MATCH stays", x.matchOf(5), 6);
        x.go(2, 0);
        due("a move", x.count(3), 1);
        due("in place of it", x.begin(3, 0), 0);
        due("no move", x.count(3), 0);
        due("none to tell", x.moved(0), NONE);
    }

    private static void go() {
        GatheredPoints x = with("<<4|:1>,7|:0>", "<2|<1|:3>>");
        due("no MATCH", x.go(0, 0), NONE);
        x.begin(3, 0);
        due("no such OPTION", x.go(0, 2), BEYOND);
        due("none below", x.go(0, -1), BEYOND);
        due("no SLOT of it", x.go(2, 0), BEYOND);
        due("no SLOT", x.go(8, 0), BEYOND);
        due("no SLOT", x.go(-1, 0), BEYOND);
        due("nothing moved", x.count(3), 0);
        due("Left's move", x.go(0, 1), 0);
        due("Right's turn", x.matchOf(0), 1);
        due("Right is SHUT there", x.go(0, 0), BEYOND);
        due("Right's move", x.go(1, 0), 0);
        due("SLOTS stay", x.gameOf(0, 3), 0);
        x.waits(0, 5);
        x.waits(1, 5);
        due("the BOARDS stay, too", x.go(1, 0), 1);
        due("OVER", x.matchOf(2), 1);
        due("it is OVER", x.go(0, 0), STATE);
        due("STATE is asked ahead of BEYOND", x.go(9, 9), STATE);
        due("POINTS: 1 and 1", x.matchOf(3), 2);
    }

    private static void play() {
        GatheredPoints x = with("<9|<-4|<7|1>>>", "<<9|5>|2>", "<8|<6|-1>>");
        due("no MATCH", x.play(1), NONE);
        due("BEYOND is asked first", x.play(0), BEYOND);
        x.begin(7, 0);
        due("too many", x.play(21), BEYOND);
        due("below", x.play(-1), BEYOND);
        int value = x.matchOf(4);
        due("as the score", value, x.score(7, 0));
        int first = x.best(7, 0);
        due("a move", x.play(1), 1);
        due("that was BEST", x.moved(0), first);
        due("the value stays", x.matchOf(4), value);
        int rest = x.play(20);
        due("then it is OVER", x.matchOf(2), 1);
        due("how many", x.matchOf(1), rest + 1);
        due("the POINTS", x.matchOf(3), value);
        due("none more", x.play(20), 0);
        x.waits(0, 20);
        x.waits(1, 20);
        x.negate(1, 1);
        x.begin(3, 0);
        due("at most twenty", x.play(20), 20);
        due("not OVER", x.matchOf(2), 0);
        due("and again", x.play(20), 20);
        due("OVER", x.matchOf(2), 1);
        due("matches are long", x.count(3), 40);
    }

    private static void loose() {
        GatheredPoints x = with("<1,2,3,4,5|:9>", "<6,7|0>", "<8|3,4>");
        due("no MATCH", x.loose(1), NONE);
        due("BEYOND is asked first", x.loose(0), BEYOND);
        x.begin(7, 0);
        due("too many", x.loose(21), BEYOND);
        for (int seed = -3; seed < 40; seed++) {
            x.begin(7, 0);
            x.seed(seed * 77777);
            int z = seed * 77777 * 1103515245 + 12345;
            int place = (z >>> 8) % 8;
            due("a move", x.loose(1), 1);
            due("z", x.count(4), z);
            due("by the draw", x.moved(0), place < 5 ? place : place < 7 ? 100 + place - 5 : 200);
        }
        x.seed(1);
        x.begin(7, 0);
        int moves = x.loose(20);
        due("then it is OVER", x.matchOf(2), 1);
        int z = 1;
        for (int k = 0; k < moves; k++) {
            z = z * 1103515245 + 12345;
        }
        due("a draw for each", x.count(4), z);
        due("none more", x.loose(5), 0);
        due("nor a draw", x.count(4), z);
    }

    private static void back() {
        GatheredPoints x = with("<<4|1>|2>", "<3|-2>");
        due("no MATCH", x.back(), NONE);
        x.begin(3, 0);
        due("no MOVE", x.back(), NONE);
        x.go(0, 0);
        x.play(1);
        x.loose(1);
        due("three", x.count(3), 3);
        due("by a draw", x.back(), 2);
        due("by the best", x.back(), 1);
        due("Right's turn", x.matchOf(0), 1);
        due("what stands there", x.board(0, 5), 3);
        due("by hand", x.back(), 0);
        due("Left's turn", x.matchOf(0), 0);
        x.board(0, 5);
        due("as at first", x.order(0, 5), 0);
        due("no MOVE", x.back(), NONE);
        due("it goes on", x.go(1, 0), 0);
    }

    private static void matchOf() {
        GatheredPoints x = with("<<4|1>|2>", "0", "<3|-2>");
        for (int what = 0; what < 6; what++) {
            due("no MATCH", x.matchOf(what), NONE);
        }
        due("BEYOND is asked first", x.matchOf(6), BEYOND);
        due("below", x.matchOf(-1), BEYOND);
        x.begin(5, 1);
        int[] wants = {1, 0, 0, STATE, -1, 5};
        for (int what = 0; what < 6; what++) {
            due("matchOf " + what, x.matchOf(what), wants[what]);
        }
        // Right takes -2; Left then comes to <4|1>, Right to 1
        due("all of them", x.play(20), 3);
        due("-2 is taken", x.moved(0), 200);
        int[] then = {0, 3, 1, -1, -1, 5};
        for (int what = 0; what < 6; what++) {
            due("then matchOf " + what, x.matchOf(what), then[what]);
        }
    }

    private static void moved() {
        GatheredPoints x = with("0", "<1,2|0>", "0", "<<4,5|1>|2>");
        due("no MATCH", x.moved(0), NONE);
        x.begin(10, 0);
        due("no MOVE", x.moved(0), NONE);
        x.go(1, 1);
        x.go(3, 0);
        due("the first", x.moved(0), 101);
        due("the second", x.moved(1), 300);
        due("no third", x.moved(2), NONE);
        due("none below", x.moved(-1), NONE);
        due("least", x.moved(LEAST), NONE);
        x.back();
        due("taken back", x.moved(1), NONE);
    }

    private static void board() {
        GatheredPoints x = with("<<4|1>|2>", "<3|-2>");
        due("no MATCH", x.board(0, 5), NONE);
        x.begin(1, 0);
        due("no SLOT of it", x.board(1, 5), NONE);
        due("no SLOT", x.board(8, 5), BEYOND);
        due("no SLOT", x.board(-1, 5), BEYOND);
        due("no SLOT", x.board(0, 8), BEYOND);
        due("BEYOND is asked first", x.board(1, 8), BEYOND);
        due("as it began", x.board(0, 5), 5);
        due("the same", x.order(0, 5), 0);
        x.go(0, 0);
        due("what stands there", x.board(0, 5), 3);
        holds("what stands there", x, 5, "<4|1>");
        due("into its SLOT", x.board(0, 0), 3);
        due("the MATCH goes on", x.go(0, 0), 1);
        due("with 1", x.board(0, 0), 1);
        due("1", x.gameOf(0, 4), 1);
    }

    private static void sheet() {
        GatheredPoints x = new GatheredPoints();
        for (int bits : new int[] {8, 16, 32}) {
            due("sheet", x.sheet(3, bits, 20), 1);
            due("all 0", x.number(3, 19), 0);
            x.put(3, 19, 5);
        }
        due("anew", x.sheet(3, 32, 20), 1);
        due("all 0", x.number(3, 19), 0);
        due("no number", x.sheet(3, 8, 0), 1);
        due("there is none", x.number(3, 0), BEYOND);
        due("missing, n doesn't matter", x.sheet(3, 0, -5), 1);
        due("it is", x.number(3, 0), NONE);
        due("missing, n doesn't matter", x.sheet(3, 0, 500), 1);
        due("no SHEET", x.sheet(4, 8, 1), BEYOND);
        due("no SHEET", x.sheet(-1, 0, 1), BEYOND);
        for (int bits : new int[] {1, -8, 64, 24, LEAST, MOST}) {
            due("no such bits", x.sheet(0, bits, -1), BEYOND);
        }
        x.sheet(0, 8, 2);
        x.put(0, 0, 7);
        due("below 0", x.sheet(0, 8, -1), STATE);
        due("above 20", x.sheet(0, 8, 21), BEYOND);
        due("it stays", x.number(0, 0), 7);
    }

    private static void put() {
        GatheredPoints x = new GatheredPoints();
        x.sheet(0, 8, 3);
        x.sheet(1, 16, 3);
        x.sheet(2, 32, 3);
        int[] values = {127, 128, 255, 256, -129, 32767, 32768, 65535, -32769, MOST, LEAST};
        for (int v : values) {
            due("put", x.put(0, 2, v), 1);
            due("8 bits", x.number(0, 2), (byte) v);
            due("put", x.put(1, 2, v), 1);
            due("16 bits", x.number(1, 2), (short) v);
            due("put", x.put(2, 2, v), 1);
            due("32 bits", x.number(2, 2), v);
        }
        due("the others stay", x.number(0, 1), 0);
        due("no number", x.put(0, 3, 1), BEYOND);
        due("none below", x.put(0, -1, 1), BEYOND);
        due("missing", x.put(3, 0, 1), NONE);
        due("NONE is asked ahead", x.put(3, -1, 1), NONE);
        due("no SHEET", x.put(4, 0, 1), BEYOND);
        due("no SHEET", x.put(-1, 0, 1), BEYOND);
    }

    private static void number() {
        GatheredPoints x = new GatheredPoints();
        x.sheet(0, 32, 2);
        x.put(0, 1, BEYOND);
        due("as an ERROR is", x.number(0, 1), BEYOND);
        due("but it is none", x.told(1), 0);
        due("no number", x.number(0, 2), BEYOND);
        due("none below", x.number(0, -1), BEYOND);
        due("missing", x.number(1, 99), NONE);
        due("no SHEET", x.number(4, 0), BEYOND);
        due("no SHEET", x.number(-1, 0), BEYOND);
        due("told", x.told(1), 4);
    }

    private static void shift() {
        GatheredPoints x = new GatheredPoints();
        row(x, 0, 16, 1, 2, 3, 4, 5);
        row(x, 1, 16, 9, 9, 9);
        row(x, 2, 8, 1, 2);
        due("upward", x.shift(0, 0, 0, 1, 4), 4);
        for (int i = 0; i < 5; i++) {
            due("as they all were", x.number(0, i), i == 0 ? 1 : i);
        }
        due("downward", x.shift(0, 1, 0, 0, 4), 4);
        for (int i = 0; i < 5; i++) {
            due("as they all were", x.number(0, i), i < 4 ? i + 1 : 4);
        }
        due("to another one", x.shift(0, 2, 1, 1, 2), 2);
        due("stays", x.number(1, 0), 9);
        due("came", x.number(1, 1), 3);
        due("came", x.number(1, 2), 4);
        due("none", x.shift(0, 5, 1, 3, 0), 0);
        due("they don't stand there", x.shift(0, 4, 1, 0, 2), BEYOND);
        due("nor there", x.shift(0, 0, 1, 2, 2), BEYOND);
        due("n below", x.shift(0, 0, 1, 0, -1), BEYOND);
        due("i below", x.shift(0, -1, 1, 0, 1), BEYOND);
        due("j below", x.shift(0, 0, 1, -1, 1), BEYOND);
        due("far", x.shift(0, MOST, 1, 0, 1), BEYOND);
        due("far", x.shift(0, 1, 1, MOST, MOST), BEYOND);
        due("far", x.shift(0, LEAST, 1, 0, LEAST), BEYOND);
        due("unlike bits", x.shift(0, 0, 2, 0, 1), KIND);
        due("KIND is asked ahead of BEYOND", x.shift(0, 0, 2, 0, -1), KIND);
        due("missing", x.shift(0, 0, 3, 0, 1), NONE);
        due("missing", x.shift(3, 0, 2, 0, 1), NONE);
        due("no SHEET", x.shift(4, 0, 3, 0, 1), BEYOND);
        due("no SHEET", x.shift(3, 0, -1, 0, 1), BEYOND);
    }

    private static void judge() {
        GatheredPoints x = with("<5|-3>", "4", "<:1|:2>", "0", "0", "0", "0", "<<9|8>|7>");
        row(x, 0, 8, 5, 4, 1);
        due("LEFT SCORES", x.judge(0, 0), -1);
        due("RIGHT SCORES", x.judge(0, 1), 0);
        row(x, 0, 8, -3, 4, 1);
        due("the first that isn't so", x.judge(0, 1), 2);
        x.put(0, 2, 2);
        due("all are", x.judge(0, 1), -1);
        row(x, 1, 16, 5, 4, 1, 0, 0, 0, 0, 8);
        due("all eight", x.judge(1, 0), -1);
        row(x, 1, 16, 5, 4, 1, 0, 0, 0, 0, 8, 0, 0);
        due("one beyond SLOTS", x.judge(1, 0), 8);
        x.sheet(1, 8, 0);
        due("of none all are", x.judge(1, 0), -1);
        due("missing", x.judge(2, 0), NONE);
        due("no SHEET", x.judge(4, 0), BEYOND);
        due("no SHEET", x.judge(-1, 0), BEYOND);
        due("no side", x.judge(2, 2), BEYOND);
        due("no side", x.judge(0, -1), BEYOND);
    }

    private static void seed() {
        GatheredPoints x = new GatheredPoints();
        due("1 at first", x.seed(BEYOND), 1);
        due("as an ERROR is", x.seed(MOST), BEYOND);
        due("but it is none", x.told(1), 0);
        due("what it was", x.seed(0), MOST);
        due("z", x.count(4), 0);
    }

    private static void imageAndRestore() {
        GatheredPoints x = with("<5|-3>", "4");
        due("no IMAGE", x.restore(), NONE);
        x.seed(77);
        due("first", x.image(), 1);
        x.begin(1, 0);
        x.go(0, 0);
        x.sheet(0, 8, 1);
        x.feed(0L, 3);
        x.waits(0, 9);
        x.waits(6, 4);
        x.seed(5);
        due("restore", x.restore(), 10);
        due("SLOTS", x.gameOf(0, 0), 3);
        due("SLOTS", x.gameOf(6, 0), 1);
        due("z", x.count(4), 77);
        due("a MATCH goes on", x.count(3), 1);
        due("SHEETS stay", x.number(0, 0), 0);
        due("THE TAPE stays", x.count(2), 3);
        x.waits(1, 3);
        due("it stays", x.restore(), 10);
        due("4 is there", x.gameOf(1, 4), 4);
        x.waits(1, 3);
        due("second, in place of it", x.image(), 2);
        x.waits(1, 0);
        due("the second", x.restore(), 13);
        due("third", x.image(), 3);
    }

    private static void count() {
        GatheredPoints x = with("<5|-3>", "<:3|:2>", "w3");
        due("SIZES", x.count(0), 13);
        due("SURE ones", x.count(1), 7);
        x.feed(0L, 5);
        due("bytes", x.count(2), 5);
        due("no MATCH", x.count(3), 0);
        x.begin(1, 0);
        x.go(0, 0);
        due("MOVES", x.count(3), 1);
        x.seed(-1000000003);
        due("z", x.count(4), -1000000003);
        due("it is no ERROR", x.told(3), 0);
        due("no such", x.count(5), BEYOND);
        due("no such", x.count(-1), BEYOND);
    }

    private static void told() {
        GatheredPoints x = with("<:3|:2>", "<5|-3>", "w9+w9+w9+w9+w9+w9+w5");
        row(x, 0, 32, 100000);
        x.sheet(1, 8, 1);
        x.game(9);
        x.go(0, 0);
        x.compare(0, 0);
        x.reduce(0, 0);
        x.join(2, 2, 2);
        x.join(2, 2, 2);
        x.join(2, 2, 2);
        x.answer(1, 3, 0, 0);
        x.shift(0, 0, 1, 0, 1);
        x.ladder(0, 0);
        int[] wants = {1, 1, 2, 3, 2, 1};
        for (int k = 1; k <= 6; k++) {
            due("told " + k, x.told(k), wants[k - 1]);
        }
        due("another k", x.told(0), BEYOND);
        due("counted, too", x.told(1), 2);
        due("another k", x.told(7), BEYOND);
        due("another k", x.told(-1), BEYOND);
        due("counted, too", x.told(1), 4);
    }
}
