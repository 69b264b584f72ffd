/** Each sentence on games, texts, strips and ladders that names a boundary case (promises 1 to 11). */
public final class EdgeGamesTest {
    public static void main(String[] args) {
        atFirst();
        tape();
        gamesAsSuch();
        limits();
        orderTerms();
        numbersOfOptions();
        scores();
        sumsAndNegatives();
        waits();
        floors();
        sure();
        units();
        faults();
        open();
        partsOfTexts();
        strips();
        stripFaults();
        ladders();
        options();
        gameOf();
        order();
        Check.finish();
    }

    private static void atFirst() {
        Check.says(1, "All as at first.");
        GatheredPoints x = new GatheredPoints();
        for (int k = 1; k <= 6; k++) {
            Check.due("told " + k, x.told(k), 0);
        }
        int[] counts = {8, 8, 0, 0, 1};
        for (int what = 0; what < 5; what++) {
            Check.due("count " + what, x.count(what), counts[what]);
        }
        Check.says(0, "SLOTS 0 to 7 each hold a GAME (0 at first).");
        int[] zero = {1, 0, 0, 0, 0, 0, 0, 0, 0, 0, 0, 0, 1};
        for (int s = 0; s < 8; s++) {
            for (int what = 0; what <= 12; what++) {
                Check.due("SLOT " + s + ", what " + what, x.gameOf(s, what), zero[what]);
            }
        }
        for (int s = 0; s < 8; s++) {
            Check.due("is held by SLOT " + s, x.waits(s, s + 1), s + 2);
        }
        for (int s = 0; s < 8; s++) {
            Check.due("stays in SLOT " + s, x.gameOf(s, 1), s + 1);
        }
        Check.says(0, "or missing (as at first)");
        for (int k = 0; k < 4; k++) {
            Check.due("SHEET " + k, x.number(k, 0), Check.NONE);
        }
        Check.due("no MATCH", x.matchOf(0), Check.NONE);
        Check.due("no IMAGE", x.restore(), Check.NONE);
        GatheredPoints other = new GatheredPoints();
        Check.due("another object has its own SLOTS", other.count(0), 8);
        Check.due("and tells its own ERRORS", other.told(2), 0);
    }

    private static void tape() {
        Check.says(2, "The n lowest bytes (1 to 8) of a word, the lowest first, come to THE TAPE");
        for (int n = 1; n <= 8; n++) {
            GatheredPoints x = new GatheredPoints();
            // 8 bytes: 1+2+3+4+; behind n of them a 9 comes
            long word = 0x2b342b332b322b31L;
            Check.due("how many", x.feed(word, n), n);
            Check.due("how many then", x.feed(n % 2 == 0 ? 0x39L : 0x392bL, n % 2 == 0 ? 1 : 2), n % 2 == 0 ? n + 1 : n + 2);
            int[] sums = {0, 10, 10, 12, 12, 15, 15, 19, 19};
            Check.due("is read", x.game(0), 1);
            Check.due(n + " bytes and 9", x.gameOf(0, 4), sums[n]);
        }
        GatheredPoints x = new GatheredPoints();
        Check.due("high bytes don't come", x.feed(0x9999999999999937L, 1), 1);
        Check.due("7", x.game(0), 1);
        Check.due("7", x.gameOf(0, 5), 7);
        Check.due("a byte above 127", x.feed(0xb5L, 1), 1);
        Check.due("is no 5", x.game(0), -10);
        Check.due("the eighth is the highest", x.feed(0x352b2b2b2b2b2b2bL, 8), 8);
        Check.due("of these the first is wrong", x.game(0), -10);
        Check.says(0, "THE TAPE takes bytes, 100 at most.");
        for (int k = 1; k <= 12; k++) {
            Check.due("8 more", x.feed(0x2b312b312b312b31L, 8), 8 * k);
        }
        Check.due("96 and 5", x.feed(0x312b312b31L, 5), Check.FULL);
        Check.due("none of these came", x.count(2), 96);
        Check.due("96 and 3", x.feed(0x312b31L, 3), 99);
        Check.due("99 and 2", x.feed(0x312bL, 2), Check.FULL);
        Check.due("99 and 1", x.feed(0x31L, 1), 100);
        Check.due("100 and 1", x.feed(0x31L, 1), Check.FULL);
        Check.due("a TEXT of 100 bytes", x.game(0), 1);
        Check.due("48 of 1, 1, 11", x.gameOf(0, 4), 60);
        Check.due("it is empty then", x.count(2), 0);
        Check.due("and takes bytes", x.feed(0x31L, 1), 1);
    }

    private static void gamesAsSuch() {
        GatheredPoints x = new GatheredPoints();
        Check.says(0, "one or more GAMES, none twice");
        Check.due("3 is there once", Check.read(x, 0, "<3,1+2,-5+8|3,3>"), 2);
        Check.due("Left's", x.gameOf(0, 2), 1);
        Check.due("Right's", x.gameOf(0, 3), 1);
        Check.due("by sides", Check.read(x, 0, "<<1|2>,<1,1|2,2>|:9>"), 4);
        Check.says(0, "GAMES are the same, if their sides are.");
        Check.due("<:5|:5> is 5", Check.read(x, 0, "<5|<:5|:5>>"), 2);
        Check.due("Left sides are unlike", Check.read(x, 0, "<5|<:4|:5>>"), 3);
        Check.due("Right sides are unlike", Check.read(x, 0, "<5|<:5|:6>>"), 3);
        Check.says(0, "the same ones counted once");
        Check.due("1 is", Check.read(x, 0, "<1,<1|1>|<1|1>,<<1|1>|1>>"), 4);
        Check.says(0, "DEPTH: 0, if both sides are SHUT, else 1 more than the greatest of its OPTIONS.");
        String[] texts = {"7", "<:1|:2>", "<:1|2>", "<1|:2>", "<1,w3|w2>", "<w2|1,w3>", "<:0|w9>", "w9"};
        int[] depths = {0, 0, 1, 1, 4, 4, 10, 9};
        for (int k = 0; k < texts.length; k++) {
            Check.read(x, 0, texts[k]);
            Check.due("DEPTH of " + texts[k], x.gameOf(0, 1), depths[k]);
        }
    }

    private static void limits() {
        Check.says(0, "What comes to a SLOT has a SIZE of 60 at most (else FULL)");
        GatheredPoints x = new GatheredPoints();
        Check.due("60 by a TEXT", Check.read(x, 0, Check.SIXTY), 60);
        Check.due("61 by a TEXT", Check.read(x, 1, Check.SIXTY_ONE), Check.FULL);
        Check.due("60 by OPTIONS", Check.read(x, 1, "<w9+w9+w9+w9+w9+w9+w3|7>"), 60);
        Check.due("61 by OPTIONS", Check.read(x, 2, "<w9+w9+w9+w9+w9+w9+w3|7,8>"), Check.FULL);
        Check.read(x, 2, "<1|2>");
        x.waits(3, 19);
        Check.due("60 by a SUM", x.join(2, 3, 4), 60);
        x.waits(3, 20);
        Check.due("63 by a SUM", x.join(2, 3, 5), Check.FULL);
        x.waits(3, 1);
        Check.due("61 by a SUM", x.join(0, 3, 5), Check.FULL);
        Check.due("the SLOT stays", x.gameOf(5, 0), 1);
        Check.due("60 is negated", x.negate(0, 5), 60);
        Check.due("60 is REDUCED", x.reduce(0, 5), 60);
        Check.due("59 are OPTIONS of 60", x.option(0, 0, 0, 5), 59);
        Check.says(0, "no number in it (of FOLLOWERS, too) is above 99999 or below -99999 (else BIG)");
        int[] numbers = {99999, 100000, -99999, -100000, Check.MOST, Check.LEAST};
        int[] sizes = {1, Check.BIG, 1, Check.BIG, Check.BIG, Check.BIG};
        for (int k = 0; k < numbers.length; k++) {
            Check.row(x, 0, 32, numbers[k]);
            Check.due("the LADDER of " + numbers[k], x.ladder(6, 0), sizes[k]);
            Check.row(x, 0, 32, 1, 2, numbers[k]);
            Check.due("its last one is " + numbers[k], x.ladder(6, 0), sizes[k] == 1 ? 5 : sizes[k]);
            Check.row(x, 0, 32, numbers[k], 2, 1);
            Check.due("its first one is " + numbers[k], x.ladder(6, 0), sizes[k] == 1 ? 5 : sizes[k]);
            Check.row(x, 0, 32, 2, numbers[k], 1);
            Check.due("its middle one is " + numbers[k], x.ladder(6, 0), sizes[k] == 1 ? 5 : sizes[k]);
        }
        bigSums();
    }

    private static void bigSums() {
        String[] high = {"0", "1", "<:1|:0>", "<:0|:1>", "<0|0>", "<1|0>", "<0|<0|1>>", "<:1|0>"};
        int[] sizes = {1, Check.BIG, Check.BIG, Check.BIG, 2, Check.BIG, Check.BIG, Check.BIG};
        GatheredPoints x = new GatheredPoints();
        Check.plain(x, 0, 99999);
        Check.plain(x, 1, -99999);
        for (int k = 0; k < high.length; k++) {
            Check.read(x, 2, high[k]);
            x.negate(2, 3);
            Check.due("99999 and " + high[k], x.join(0, 2, 4), sizes[k]);
            Check.due(high[k] + " and 99999", x.join(2, 0, 4), sizes[k]);
            Check.due("-99999 and NEGATIVE of " + high[k], x.join(1, 3, 4), sizes[k]);
        }
        Check.due("99999 and -99999", x.join(0, 1, 4), 1);
        Check.due("are 0", x.gameOf(4, 4), 0);
    }

    /** Rows of games, each ahead of all behind it, for one clause. */
    private static void inOrder(String... rows) {
        for (int i = 0; i < rows.length; i++) {
            for (int j = 0; j < rows.length; j++) {
                GatheredPoints x = Check.with(rows[i], rows[j]);
                Check.due(rows[i] + " and " + rows[j], x.order(0, 1), Integer.compare(i, j));
            }
        }
    }

    private static void orderTerms() {
        Check.says(0, "of two GAMES the first is that with the lesser DEPTH");
        inOrder("99", "<:-9|-9>", "<<:-9|-9>|:-9>", "w3", "-w4");
        Check.says(0, "if these are the same, Left sides tell: a SHUT one is ahead of one with OPTIONS");
        inOrder("<:99|9>", "<-9|:-9>");
        Check.says(0, "of two SHUT ones that with the lesser number");
        inOrder("<:-2|:9>", "<:-1|:-9>", "0", "<:1|:-9>");
        inOrder("<:-2|9>", "<:-1|3>", "<:3|-5>");
        Check.says(0, "of two with OPTIONS that with fewer");
        inOrder("<9|:9>", "<1,2|:5>", "<-9,-8,-7|:0>");
        inOrder("<<9|9>|:9>", "<-9,<9|9>|:-9>", "<-9,-8,<9|9>|:-9>");
        Check.says(0, "else that with the first one in this ORDER where their OPTIONS, in this ORDER, are unlike first");
        inOrder("<1,9|:9>", "<2,3|:5>", "<2,5|:3>", "<3,4|:0>");
        inOrder("<1,<9|9>|:9>", "<2,<1|1>|:9>", "<<1|1>,<9|9>|:0>", "<<2|1>,<3|1>|:0>");
        Check.says(0, "if Left sides are the same, Right sides tell likewise");
        inOrder("<:1|:-5>", "1", "<:1|:5>");
        inOrder("<:1|2>", "<:1|1,2>", "<:1|1,3>", "<:1|2,3>");
        inOrder("<1|:99>", "<1|-9>", "<1|0>", "<1|-9,9>");
        inOrder("<<1|1>|:0>", "<<1|1>|9>", "<<1|1>|8,9>", "<<1|2>|:0>");
        Check.says(0, "OPTIONS of a side are numbered 0, 1, .. in this ORDER.");
        GatheredPoints x = Check.with("<w1,<0|0>,5,-w1,-5,<:0|:9>|<<1|1>|1>,<1|1>,8,-8>");
        String[] lefts = {"-5", "<:0|:9>", "5", "-w1", "w1", "<0|0>"};
        for (int i = 0; i < lefts.length; i++) {
            x.option(0, 0, i, 1);
            Check.holds("Left's " + i, x, 1, lefts[i]);
        }
        String[] rights = {"-8", "8", "<1|1>", "<<1|1>|1>"};
        for (int i = 0; i < rights.length; i++) {
            x.option(0, 1, i, 1);
            Check.holds("Right's " + i, x, 1, rights[i]);
        }
    }

    /** OPTIONS are put in ORDER, in whatever order a TEXT has them. */
    private static void numbered(String... rows) {
        StringBuilder up = new StringBuilder();
        StringBuilder down = new StringBuilder();
        for (String text : rows) {
            up.append(up.length() == 0 ? "" : ",").append(text);
            down.insert(0, text + (down.length() == 0 ? "" : ","));
        }
        for (String side : new String[] {up.toString(), down.toString()}) {
            GatheredPoints x = Check.with("<" + side + "|:9>", "<:-9|" + side + ">");
            for (int i = 0; i < rows.length; i++) {
                x.option(0, 0, i, 2);
                Check.holds("Left's " + i + " of " + side, x, 2, rows[i]);
                x.option(1, 1, i, 2);
                Check.holds("Right's " + i + " of " + side, x, 2, rows[i]);
            }
        }
    }

    private static void numbersOfOptions() {
        Check.says(0, "OPTIONS of a side are numbered 0, 1, .. in this ORDER.");
        numbered("-3", "<:0|:-1>", "0", "<:0|:5>", "2", "-w1", "w1", "<0|0>", "<<0|0>|0>");
        numbered("<1,2|:9>", "<1,3|:9>", "<1,4|:5>", "<2,3|:9>");
        numbered("<:1|1,2>", "<:1|1,3>", "<:1|2,3>");
        numbered("<0|0,1>", "<0|0,2>", "<0,1|0>", "<0,2|0>");
        numbered("<1,2,5|:9>", "<1,3,4|:9>", "<1,<0|0>|:0>");
    }

    private static void scoresOf(String text, int left, int right) {
        GatheredPoints x = Check.with(text);
        Check.due("LEFT SCORE of " + text, x.gameOf(0, 6), left);
        Check.due("RIGHT SCORE of " + text, x.gameOf(0, 7), right);
    }

    private static void scores() {
        Check.says(0, "LEFT SCORE: the number with which Left is SHUT, or the greatest RIGHT SCORE of Left's OPTIONS.");
        scoresOf("<:3|9>", 3, 9);
        scoresOf("<<9|1>,<3|2>|:0>", 2, 0);
        scoresOf("<<9|:1>,<:3|2>,-4|:0>", 2, 0);
        Check.says(0, "RIGHT SCORE: the number with which Right is SHUT, or the least LEFT SCORE of Right's OPTIONS.");
        scoresOf("<9|:3>", 9, 3);
        scoresOf("<:0|<5|1>,<3|2>>", 0, 3);
        scoresOf("<:0|<:5|1>,<3|:2>,4>", 0, 3);
    }

    private static void sumsAndNegatives() {
        Check.says(0, "if both are SHUT on Left, it is with both numbers together; Right likewise");
        sumOf("<:1|:2>", "<:10|:20>", "<:11|:22>");
        sumOf("<:1|0>", "<:10|:20>", "<:11|<:10|:20>>");
        sumOf("<0|:2>", "<:10|:20>", "<<:10|:20>|:22>");
        Check.says(0, "Left's OPTIONS are the SUMS of those of g and h, and of g and those of h");
        sumOf("<1|:0>", "<:5|:7>", "<<:6|:8>|:7>");
        sumOf("<1|:0>", "<10|:0>", "<1+<10|:0>,10+<1|:0>|:0>");
        sumOf("<1|2>", "0", "<1|2>");
        sumOf("<1|2>", "-3", "<-2|-1>");
        Check.says(7, "A SLOT holds the SUM of what two SLOTS hold: its SIZE.");
        GatheredPoints x = Check.with("<1|2>", "w2");
        Check.due("into the one", x.join(0, 1, 0), 9);
        Check.holds("into the one", x, 0, "<1|2>+w2");
        Check.due("with itself into the other one", x.join(1, 1, 1), 5);
        Check.holds("with itself", x, 1, "w4");
        Check.says(0, "Left's OPTIONS are NEGATIVES of Right's, or it is SHUT with 0 less that number; Right likewise.");
        String[] games = {"5", "0", "<:1|:2>", "<:1|2>", "<1|:2>", "<<1|2>,7|:-3>"};
        String[] negatives = {"-5", "0", "<:-2|:-1>", "<-2|:-1>", "<:-2|-1>", "<:3|-7,<-2|-1>>"};
        for (int k = 0; k < games.length; k++) {
            GatheredPoints y = Check.with(games[k]);
            Check.due("NEGATIVE of " + games[k], y.negate(0, 1), y.gameOf(0, 0));
            Check.holds("NEGATIVE of " + games[k], y, 1, negatives[k]);
            y.negate(1, 1);
            Check.holds("and back", y, 1, games[k]);
        }
        Check.says(8, "A SLOT holds the NEGATIVE of what a SLOT holds: its SIZE.");
        GatheredPoints y = new GatheredPoints();
        Check.plain(y, 0, 99999);
        Check.due("of the greatest", y.negate(0, 0), 1);
        Check.due("is the least", y.gameOf(0, 4), -99999);
        Check.due("back", y.negate(0, 0), 1);
        Check.due("is the greatest", y.gameOf(0, 5), 99999);
    }

    private static void sumOf(String one, String other, String want) {
        GatheredPoints x = Check.with(one, other);
        x.join(0, 1, 2);
        Check.holds(one + " and " + other, x, 2, want);
        x.join(1, 0, 2);
        Check.holds(other + " and " + one, x, 2, want);
    }

    private static void waits() {
        Check.says(0, "WAITS n: 0, if n is 0; else Left's one OPTION is WAITS n - 1, Right is SHUT with 0.");
        GatheredPoints x = new GatheredPoints();
        x.waits(0, 0);
        Check.holds("WAITS 0", x, 0, "0");
        x.waits(0, 1);
        Check.holds("WAITS 1", x, 0, "<0|:0>");
        Check.says(6, "A SLOT holds WAITS n (0 to 20): its SIZE.");
        for (int n = 0; n <= 20; n++) {
            Check.due("SIZE of WAITS " + n, x.waits(0, n), n + 1);
            Check.due("OPTION", x.option(0, 0, 0, 1), n == 0 ? Check.NONE : n);
            Check.due("RIGHT SCORE", x.gameOf(0, 7), 0);
        }
        Check.due("WAITS 21", x.waits(0, 21), Check.BEYOND);
        Check.due("WAITS -1", x.waits(0, -1), Check.BEYOND);
        Check.due("20 stays", x.gameOf(0, 0), 21);
    }

    private static void boundsOf(String text, int floor, int ceiling, int leftPrice, int rightPrice) {
        GatheredPoints x = Check.with(text);
        x.negate(0, 1);
        int[] wants = {floor, ceiling, leftPrice, rightPrice};
        int[] negatives = {-ceiling, -floor, rightPrice, leftPrice};
        for (int k = 0; k < 4; k++) {
            Check.due("what " + (8 + k) + " of " + text, x.gameOf(0, 8 + k), wants[k]);
            Check.due("what " + (8 + k) + " of its NEGATIVE", x.gameOf(1, 8 + k), negatives[k]);
        }
    }

    private static void floors() {
        Check.says(0, "CEILING: the greatest of RIGHT SCORES of SUMS of g and WAITS 0, 1, .., DEPTH + 1.");
        boundsOf("7", 7, 7, 0, 0);
        boundsOf("<:3|:-2>", 3, -2, 0, 0);
        boundsOf("<:-3|:2>", -3, 2, 0, 0);
        // Right goes to <:1|:5>: SHUT, Left gets 1; with a wait Right is, and it is 5
        boundsOf("<0|<:1|:5>>", 0, 5, 1, 0);
        // here a wait is harmful, WAITS 0 have the greatest
        boundsOf("<0|<:5|:1>>", 0, 5, 0, 0);
        // as many waits as the DEPTH are needed, one more brings nothing
        boundsOf("<:0|<:1|<:2|<:3|:9>>>>", 0, 9, 3, 0);
        boundsOf("<:0|<:1|<:2|<:3|<:4|:7>>>>>", 0, 7, 4, 0);
        // the greatest is with two waits, with more of them it is the least
        boundsOf("<:0|<:1|<:2|<:3|:-9>>>>", 0, 3, 2, 0);
        Check.says(0, "FLOOR of g: the least of LEFT SCORES of SUMS of g and NEGATIVES of WAITS 0, 1, .., DEPTH + 1.");
        boundsOf("<5|-3>", 5, -3, 0, 0);
        boundsOf("<<:-5|:-1>|0>", -5, 0, 0, 1);
        boundsOf("<<<<:-9|:-3>|:-2>|:-1>|:0>", -9, 0, 0, 3);
        Check.says(0, "PRICE for Left: the least n such that the RIGHT SCORE of the SUM of g and WAITS n is the CEILING");
        boundsOf("<0|<-5|7>>", 0, 7, 1, 0);
        boundsOf("<0|<-5|<-9|7>>>", 0, 7, 2, 0);
        boundsOf("<0|<-5|<-5|-5>>>", 0, -5, 0, 0);
        Check.says(0, "for Right likewise by the LEFT SCORE, NEGATIVES, the FLOOR");
        boundsOf("<<-7|5>|0>", -7, 0, 0, 1);
        boundsOf("<<<-7|9>|5>|0>", -7, 0, 0, 2);
        GatheredPoints x = Check.with(Check.SIXTY);
        Check.due("the deepest: FLOOR", x.gameOf(0, 8), 0);
        Check.due("the deepest: CEILING", x.gameOf(0, 9), 0);
        Check.due("the deepest: PRICE for Left", x.gameOf(0, 10), 0);
        Check.due("the deepest: PRICE for Right", x.gameOf(0, 11), 0);
    }

    private static void sure() {
        Check.says(0, "SURE: a GAME of whose FOLLOWERS each that is SHUT on Left with l has no FOLLOWER that is SHUT (on a side)"
                + " with less than l, each that is SHUT on Right with r none with more than r.");
        String[] sure = {"0", "<:2|:2>", "<:2|:3>", "<:1|1>", "<:1|<1|:2>>", "<2|:2>", "<<:0|2>|:2>", "<5|-3>", "w9",
            "<<:0|0>|-9>", "<:-1|<3|-1>>", "<<0|:3>|9>"};
        String[] unsure = {"<:3|:2>", "<:1|0>", "<:1|<1|0>>", "<3|:2>", "<<:0|3>|:2>", "<5|<:3|:2>>", "<<:0|-1>|5>", "<:0|<:-1|5>>",
            "<<-1|:-2>|9>", "<:0|<<:3|:-1>|9>>", "<<9|:8>|-3>", "<:5|<9|:4>>"};
        for (String text : sure) {
            Check.due(text, Check.with(text).gameOf(0, 12), 1);
        }
        for (String text : unsure) {
            GatheredPoints x = Check.with(text);
            Check.due(text, x.gameOf(0, 12), 0);
            x.negate(0, 0);
            Check.due("NEGATIVE of " + text, x.gameOf(0, 12), 0);
        }
    }

    private static void units() {
        Check.says(0, "a NUMBER (1 to 3 digits)");
        String[] numbers = {"0", "9", "00", "99", "000", "999", "007", "0", "-999", "--999"};
        int[] wants = {0, 9, 0, 99, 0, 999, 7, 0, -999, 999};
        for (int k = 0; k < numbers.length; k++) {
            Check.due(numbers[k], Check.with(numbers[k]).gameOf(0, 4), wants[k]);
        }
        GatheredPoints x = new GatheredPoints();
        Check.due("four digits", Check.read(x, 0, "0000"), -13);
        Check.due("four digits, SHUT", Check.read(x, 0, "<:0000|:1>"), -15);
        Check.due("four digits, SHUT below 0", Check.read(x, 0, "<:-0000|:1>"), -16);
        Check.says(0, "w and a digit (WAITS)");
        Check.due("w0", Check.read(x, 0, "w0"), 1);
        Check.due("w9", Check.read(x, 0, "w9"), 10);
        Check.due("w", Check.read(x, 0, "w"), -11);
        Check.due("w10", Check.read(x, 0, "w10"), -12);
        Check.says(0, "S: : NUMBER, : - NUMBER (SHUT)");
        String[] shut = {"<:0|:-0>", "<:999|:-999>", "<:-5|:07>"};
        int[] lefts = {0, 999, -5};
        int[] rights = {0, -999, 7};
        for (int k = 0; k < shut.length; k++) {
            GatheredPoints y = Check.with(shut[k]);
            Check.due("Left of " + shut[k], y.gameOf(0, 4), lefts[k]);
            Check.due("Right of " + shut[k], y.gameOf(0, 5), rights[k]);
        }
        Check.says(0, "E: U { + U }.");
        Check.holds("- is of its U alone", x, sumInto(x, "-1+4"), "3");
        Check.holds("twice", x, sumInto(x, "1+-<1|2>+w1"), "<-1|0>+w1");
        Check.says(0, "No blanks.");
        String[] blanks = {" 1", "1 ", "1 +2", "1+ 2", "<1 |2>", "w 1", "<: 1|2>", "<:- 1|2>", "1\n", "\t1", "1\0"};
        int[] places = {0, 1, 1, 2, 2, 1, 2, 3, 1, 0, 1};
        for (int k = 0; k < blanks.length; k++) {
            Check.due("'" + blanks[k] + "'", Check.read(x, 0, blanks[k]), -10 - places[k]);
        }
    }

    private static int sumInto(GatheredPoints x, String text) {
        Check.due(text + " is a game", Check.read(x, 0, text) > 0 ? 1 : 0, 1);
        return 0;
    }

    private static void faultsOf(String[] texts, int... places) {
        for (int k = 0; k < texts.length; k++) {
            GatheredPoints x = Check.with("7");
            Check.due("'" + texts[k] + "'", Check.read(x, 0, texts[k]), -10 - places[k]);
            Check.due("the SLOT stays", x.gameOf(0, 4), 7);
            Check.due("THE TAPE is empty", x.count(2), 0);
            int told = 0;
            for (int e = 1; e <= 6; e++) {
                told += x.told(e);
            }
            Check.due("it is no ERROR", told, 0);
        }
    }

    private static void faults() {
        Check.says(0, "FAULT: the place (from 0) of the first byte with which no TEXT goes on");
        faultsOf(new String[] {"+", ">", "|", ",", ":", "x", "l", "W1", "/", ";", "\u00b1", "\u0000"}, 0, 0, 0, 0, 0, 0, 0, 0, 0, 0, 0, 0);
        faultsOf(new String[] {"1234", "1:", "1,2", "1|2", "1>", "1<", "1w", "1-2", "1/", "1;", "12/", "123/"},
                3, 1, 1, 1, 1, 1, 1, 1, 1, 1, 2, 3);
        faultsOf(new String[] {"w+", "wx", "w/", "w;", "w-", "ww", "w1w", "w12"}, 1, 1, 1, 1, 1, 1, 2, 2);
        faultsOf(new String[] {"-+", "->", "-:1", "1+)", "1++", "1+:", "-w"}, 1, 1, 1, 2, 2, 2, 2);
        faultsOf(new String[] {"<|", "<>", "<,", "<+", "<::", "<:|", "<:x", "<:w1|2>", "<:--1|", "<:-|", "<:<"},
                1, 1, 1, 1, 2, 2, 2, 2, 3, 3, 2);
        faultsOf(new String[] {"<1>", "<1,|", "<1,:2|", "<:1,2|", "<:1+2|", "<:1>", "<:123>", "<:-1,2|3>", "<:1-"},
                2, 3, 3, 3, 3, 3, 5, 4, 3);
        faultsOf(new String[] {"<1|>", "<1||", "<1|2|", "<1|2,>", "<1|:2,", "<1|:2|", "<1|:2+", "<1|,2>", "<1|2>3", "<1|2>>", "<1|2>|",
            "<1|2>,"}, 3, 3, 4, 5, 5, 5, 5, 3, 5, 5, 5, 5);
        faultsOf(new String[] {"1+\u00ff", "<1|2\u00be", "<\u00ba1|2>", "\u00ff"}, 2, 4, 1, 0);
        Check.says(0, "how many there are, if it ends too early");
        faultsOf(new String[] {"", "-", "w", "<", "1+", "<:", "<:-", "<1", "<1,", "<:1", "<:-12", "<:123", "<1|", "<1|:", "<1|:2", "<1|2",
            "<1|2,", "<1|2>+", "<1|w", "<1|w1", "--------", "<<<<<<<<"}, 0, 1, 1, 1, 2, 2, 3, 2, 3, 3, 5, 5, 3, 4, 5, 4, 5, 6, 4, 5, 8, 8);
        faultsOf(new String[] {"1+".repeat(50), "<" + "1,".repeat(49) + "1"}, 100, 100);
        Check.says(3, "-10 less the FAULT (no ERROR; the SLOT stays)");
        GatheredPoints x = new GatheredPoints();
        Check.due("ahead of FULL", Check.read(x, 0, Check.SIXTY_ONE + "+"), -10 - 21);
        Check.due("ahead of FULL", Check.read(x, 0, "<" + Check.SIXTY_ONE + "|2>)"), -10 - 24);
        Check.due("FULL isn't told", x.told(4), 0);
    }

    private static void open() {
        Check.says(0, "At most 8 of - (but not the one behind :) and < are open at once (- till its U ends).");
        String seven = "1|1>".repeat(7).replaceFirst("1", "");
        String[] fine = {"--------5", "--------w1", "-------<1|2>", "<-------1|-------2>", "<<<<<<<<1|2>|1>|1>|1>|1>|1>|1>|1>",
            "--------1+--------1+<1|2>", "<--" + "-----1+-------1,-------1|2>", "<<<<<<<<:-1|:-2>|1>|1>|1>|1>|1>|1>|1>",
            "<<1|1>,<<<<<<<1|1>|1>|1>|1>|1>|1>|1>|<<<<<<<1|1>|1>|1>|1>|1>|1>|1>>", "-------<:-1|:-1>", "<------<:-1|:-2>|:-3>"};
        for (String text : fine) {
            GatheredPoints x = new GatheredPoints();
            Check.due(text, Check.read(x, 0, text) > 0 ? 1 : 0, 1);
        }
        faultsOf(new String[] {"---------5", "--------<1|2>", "<--------1|2>", "-------<-1|2>", "-------<<1|2>|3>", "<<<<<<<<<", "<<<<<<<<-",
            "<-------1+--------1|2>", "<1|--------1>", "1+---------1", "<<<<<<<<1|-1>" + seven, "<------<:-1|--2>|:-3>"},
                8, 8, 8, 8, 8, 8, 8, 17, 10, 10, 10, 12);
    }

    private static void partsOfTexts() {
        Check.says(3, "(a U; an E as far as it goes, behind each of its U)");
        GatheredPoints x = new GatheredPoints();
        Check.due("of 60", Check.read(x, 0, Check.SIXTY + "+1+-1"), 60);
        Check.due("an E as far as it goes", Check.read(x, 1, Check.SIXTY_ONE + "+1"), Check.FULL);
        Check.due("an E inside", Check.read(x, 1, "<1," + Check.SIXTY_ONE + "|2>"), Check.FULL);
        Check.due("an E behind :", Check.read(x, 1, "<:1|" + Check.SIXTY_ONE + ">"), Check.FULL);
        Check.due("a U of OPTIONS that fit", Check.read(x, 1, "<" + Check.SIXTY + "|:0>"), Check.FULL);
        Check.due("a U behind -", Check.read(x, 1, "-<" + Check.SIXTY + "|:0>"), Check.FULL);
        Check.due("in each OPTION less", Check.read(x, 1, "<1+w9+w9+w9,2+w9+w9+w9|3+w9>"), Check.FULL);
        Check.due("THE TAPE is empty", x.count(2), 0);
        Check.due("FULL is told", x.told(4), 6);
        Check.due("the SLOT stays", x.gameOf(1, 0), 1);
        Check.says(3, "may not come to a SLOT; of the part that ends first");
        Check.due("one that is followed by good ones", Check.read(x, 1, "<" + Check.SIXTY_ONE + ",1|2>+3+-w1"), Check.FULL);
        Check.due("two of them are one ERROR", Check.read(x, 1, Check.SIXTY_ONE + "+" + Check.SIXTY_ONE), Check.FULL);
        Check.due("told", x.told(4), 8);
        // 3, 9 and 27 fit, 81 don't
        Check.due("the last U", Check.read(x, 1, "<1|2>+<3|5>+<9|17>+<33|65>"), Check.FULL);
        Check.due("27", Check.read(x, 1, "<1|2>+<3|5>+<9|17>"), 27);
        Check.says(3, "is THE TEXT of a GAME that a SLOT holds then: its SIZE");
        for (int s = 0; s < 8; s++) {
            Check.due("SLOT " + s, Check.read(x, s, "<" + s + "|:9>"), 2);
            Check.due("holds it", x.gameOf(s, 6), s);
        }
    }

    private static void stripIs(String cells, String text) {
        GatheredPoints x = new GatheredPoints();
        Check.due(cells + " is a strip", Check.lay(x, 0, cells) > 0 ? 1 : 0, 1);
        Check.due("THE TAPE is empty then", x.count(2), 0);
        Check.holds(cells, x, 0, text);
    }

    private static void strips() {
        Check.says(0, "A STRIP is 1 to 8 bytes");
        stripIs("0", "0");
        stripIs("9", "<:-9|:9>");
        stripIs("l", "0");
        stripIs("r", "0");
        stripIs("99999999", "<:-72|:72>");
        stripIs("l0000000", "w7");
        stripIs("0000000r", "-w7");
        Check.says(0, "Left takes one of its stones to the next cell to the right, if there is no stone, and gathers the points there");
        stripIs("l4", "<4|:4>");
        stripIs("ll", "0");
        stripIs("lr", "0");
        stripIs("4l", "<:-4|:4>");
        stripIs("l44", "<<8|:8>|:8>");
        stripIs("ll4", "<<4|:4>|:4>");
        Check.says(0, "Right to the left likewise");
        stripIs("4r", "<:-4|-4>");
        stripIs("rr", "0");
        stripIs("r4", "<:-4|:4>");
        stripIs("44r", "<:-8|<:-8|-8>>");
        stripIs("4rr", "<:-4|<:-4|-4>>");
        Check.says(0, "the cell where it was has 0 points then");
        stripIs("l5", "<<:5|:5>|:5>");
        stripIs("l5r", "<5|-5>");
        stripIs("l12r", "<<3|-1>|<-1|-3>>");
        Check.says(0, "a side without such is SHUT: Left with p less all points that lie there, Right with p and all these");
        stripIs("rl", "0");
        stripIs("3l", "<:-3|:3>");
        stripIs("l2l3", "<<<5|:5>|:5>|:5>");
        stripIs("l2r7", "<<:-5|:9>|<:-9|:5>>");
        Check.says(0, "It begins with p 0.");
        stripIs("7l", "<:-7|:7>");
        Check.says(4, "FULL.");
        GatheredPoints x = new GatheredPoints();
        Check.due("too many", Check.lay(x, 0, "ll5939rr"), Check.FULL);
        Check.due("THE TAPE is empty", x.count(2), 0);
        Check.due("the SLOT stays", x.gameOf(0, 0), 1);
        Check.due("it is told", x.told(4), 1);
    }

    private static void stripFaults() {
        Check.says(4, "-10 less the place of the first byte that is none (the ninth, too; 0, if there is no byte; no ERROR).");
        String[] cells = {"", "x", "L", "R", "/", ":", "-", " ", "w1", "l ", "l0k", "l0m", "l0q", "l0s", "l0/", "l0:", "0000000x", "00000000x",
            "00000000l", "000000000", "l0r\u00ec", "\u00b0", "\u0000", "0".repeat(100)};
        int[] places = {0, 0, 0, 0, 0, 0, 0, 0, 0, 1, 2, 2, 2, 2, 2, 2, 7, 8, 8, 8, 3, 0, 0, 8};
        for (int k = 0; k < cells.length; k++) {
            GatheredPoints x = Check.with("7");
            Check.due("'" + cells[k] + "'", Check.lay(x, 0, cells[k]), -10 - places[k]);
            Check.due("the SLOT stays", x.gameOf(0, 4), 7);
            Check.due("THE TAPE is empty", x.count(2), 0);
            Check.due("it is no ERROR", x.told(1) + x.told(2) + x.told(3) + x.told(4) + x.told(5) + x.told(6), 0);
        }
        Check.says(4, "is a STRIP the GAME of which a SLOT holds then: its SIZE");
        GatheredPoints x = new GatheredPoints();
        for (int s = 0; s < 8; s++) {
            Check.due("SLOT " + s, Check.lay(x, s, "l" + (s + 1)), 2);
            Check.due("holds it", x.gameOf(s, 6), s + 1);
        }
    }

    private static void ladders() {
        Check.says(0, "LADDER of a row a, b, ..: of one number the GAME a; else Left's one OPTION is a, Right's that of the others.");
        GatheredPoints x = new GatheredPoints();
        Check.row(x, 0, 8, -7);
        Check.due("of one", x.ladder(0, 0), 1);
        Check.holds("of one", x, 0, "-7");
        Check.row(x, 0, 8, 3, 4);
        Check.due("of two", x.ladder(0, 0), 3);
        Check.holds("of two", x, 0, "<3|4>");
        Check.row(x, 0, 8, 3, 4, 3);
        Check.due("of three", x.ladder(0, 0), 4);
        Check.holds("of three", x, 0, "<3|<4|3>>");
        x.sheet(3, 16, 20);
        Check.due("of twenty that are 0", x.ladder(7, 3), 20);
        for (int i = 0; i < 20; i++) {
            x.put(3, i, 20 - i);
        }
        Check.due("of twenty", x.ladder(7, 3), 39);
        Check.due("DEPTH", x.gameOf(7, 1), 19);
        Check.due("Left's", x.gameOf(7, 6), 20);
        Check.due("Right's", x.gameOf(7, 7), 19);
        Check.says(5, "NONE: the SHEET is missing, or has no number.");
        x.sheet(3, 16, 0);
        Check.due("no number", x.ladder(7, 3), Check.NONE);
        x.sheet(3, 0, 0);
        Check.due("missing", x.ladder(7, 3), Check.NONE);
        Check.due("the SLOT stays", x.gameOf(7, 0), 39);
    }

    private static void options() {
        Check.says(9, "A SLOT holds the i-th OPTION of a side (0 Left, 1 Right) of what a SLOT holds: its SIZE.");
        GatheredPoints x = Check.with("<<1|2>,7|-4,<5|<6|8>>>");
        int[] sizes = {1, 3, 1, 5};
        String[] texts = {"7", "<1|2>", "-4", "<5|<6|8>>"};
        for (int k = 0; k < 4; k++) {
            Check.due(texts[k], x.option(0, k / 2, k % 2, 1), sizes[k]);
            Check.holds(texts[k], x, 1, texts[k]);
        }
        Check.due("into its SLOT", x.option(0, 1, 1, 0), 5);
        Check.holds("into its SLOT", x, 0, "<5|<6|8>>");
        Check.says(9, "NONE: there is none such.");
        Check.due("Left's second", x.option(0, 0, 1, 0), Check.NONE);
        Check.due("on", x.option(0, 1, 0, 0), 3);
        Check.due("on", x.option(0, 0, 0, 0), 1);
        Check.due("Left is SHUT", x.option(0, 0, 0, 0), Check.NONE);
        Check.due("Right is SHUT", x.option(0, 1, 0, 0), Check.NONE);
        Check.due("the last one stays", x.gameOf(0, 4), 6);
        StringBuilder many = new StringBuilder("<10");
        for (int k = 1; k < 30; k++) {
            many.append(',').append(10 + k);
        }
        Check.due("many OPTIONS", Check.read(x, 0, many.append("|:99>").toString()), 31);
        Check.due("how many", x.gameOf(0, 2), 30);
        Check.due("the last", x.option(0, 0, 29, 1), 1);
        Check.due("is 39", x.gameOf(1, 4), 39);
        Check.due("none behind it", x.option(0, 0, 30, 1), Check.NONE);
    }

    private static void gameOf() {
        Check.says(10, "2 how many OPTIONS Left has (0: it is SHUT), 3 Right");
        GatheredPoints x = Check.with("<1,2|:9>", "<:0|1,2,3>", "<:4|:5>");
        int[][] wants = {{3, 1, 2, 0, Check.NONE, 9}, {4, 1, 0, 3, 0, Check.NONE}, {1, 0, 0, 0, 4, 5}};
        for (int s = 0; s < 3; s++) {
            for (int what = 0; what < 6; what++) {
                Check.due("SLOT " + s + ", what " + what, x.gameOf(s, what), wants[s][what]);
            }
        }
        Check.says(10, "NONE (what 4, 5): it isn't SHUT.");
        Check.due("told", x.told(2), 2);
        Check.says(10, "12 1 if it is SURE, else 0");
        Check.read(x, 3, "<:5|:4>");
        Check.due("not SURE", x.gameOf(3, 12), 0);
        Check.due("SURE", x.gameOf(2, 12), 1);
    }

    private static void order() {
        Check.says(11, "-1 if the one is ahead in the ORDER, 1 if the other one is, 0 if they are the same");
        GatheredPoints x = Check.with("4", "5", "<5|4>", "4", "<<5|4>|4>", Check.SIXTY, Check.SIXTY);
        x.negate(6, 7);
        int[] ranks = {0, 1, 2, 0, 3, 5, 5, 4};
        for (int i = 0; i < 8; i++) {
            for (int j = 0; j < 8; j++) {
                Check.due("SLOTS " + i + ", " + j, x.order(i, j), Integer.compare(ranks[i], ranks[j]));
            }
        }
    }
}
