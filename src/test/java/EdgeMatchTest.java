/** Each sentence on sums of SLOTS and on matches that names a boundary case (promises 15 to 24). */
public final class EdgeMatchTest {
    public static void main(String[] args) {
        sets();
        scores();
        sizes();
        best();
        begin();
        over();
        go();
        play();
        loose();
        draws();
        back();
        matchOf();
        moved();
        board();
        longest();
        Check.finish();
    }

    private static boolean isSet(int set) {
        return set >= 1 && set <= 255 && Integer.bitCount(set) <= 3;
    }

    private static void sets() {
        Check.says(0, "A SUM OF SLOTS is told by a set (1, 2, 4, .., 128 for SLOTS 0, 1, .., 7), of one to three");
        GatheredPoints x = new GatheredPoints();
        int calls = 0;
        for (int set = -2; set <= 258; set++) {
            if (calls == 0) {
                x = new GatheredPoints();
                for (int s = 0; s < 8; s++) {
                    Check.read(x, s, String.valueOf(1 << s));
                }
            }
            calls = calls + 3 > 450 ? 0 : calls + 3;
            Check.due("score of " + set, x.score(set, set & 1), isSet(set) ? set : Check.BEYOND);
            Check.due("begin with " + set, x.begin(set, set & 1), isSet(set) ? 1 : Check.BEYOND);
            Check.due("best of " + set, x.best(set, set & 1), isSet(set) ? Check.NONE : Check.BEYOND);
        }
    }

    private static void scores() {
        Check.says(15, "LEFT SCORE (side 0), RIGHT SCORE (1) of a SUM OF SLOTS.");
        GatheredPoints x = Check.with("<5|-3>", "<4|-4>", "<:2|:7>", "<3|:9>", "<:-2|1>");
        int[] sets = {1, 3, 4, 5, 7, 8, 16, 24, 20, 28};
        // <:2|:7> is worth 2 if in the end it is Left's turn, 7 if it is Right's
        int[] lefts = {5, 1, 2, 12, 3, 3, -2, 4, 0, 6};
        int[] rights = {-3, 1, 7, -1, 8, 9, 1, 4, 3, 11};
        for (int k = 0; k < sets.length; k++) {
            Check.due("LEFT SCORE of " + sets[k], x.score(sets[k], 0), lefts[k]);
            Check.due("RIGHT SCORE of " + sets[k], x.score(sets[k], 1), rights[k]);
        }
        Check.plain(x, 5, 99999);
        Check.plain(x, 6, 99999);
        Check.plain(x, 7, 99999);
        Check.due("above what a SLOT holds", x.score(224, 0), 299997);
        x.negate(5, 5);
        x.negate(6, 6);
        x.negate(7, 7);
        Check.due("below what a SLOT holds", x.score(224, 1), -299997);
        Check.due("a SLOT that changed", x.score(32, 1), -99999);
        x.waits(5, 0);
        Check.due("once more", x.score(224, 1), -199998);
    }

    private static void sizes() {
        Check.says(15, "LEFT SCORE (side 0), RIGHT SCORE (1) of a SUM OF SLOTS.");
        // whichever BOARD is the large one
        int[][] waits = {{0, 0, 20}, {0, 20, 0}, {19, 0, 0}, {1, 19, 3}, {19, 3, 1}, {3, 1, 19}, {19, 20, 20}, {1, 2, 20}};
        for (int[] three : waits) {
            GatheredPoints x = Check.with("0", "0", "0", "<5|-3>");
            for (int s = 0; s < 3; s++) {
                x.waits(s, three[s]);
            }
            x.join(0, 3, 0);
            // Left takes 5, or waits once Right has taken -3: then Right is SHUT
            Check.due("Left begins", x.score(7, 0), 5);
            Check.due("Right begins", x.score(7, 1), -3);
            Check.due("BEST for Left", x.best(7, 0) / 100, 0);
            Check.due("the MATCH", x.begin(7, 1), 0);
            Check.due("what it will be", x.matchOf(4), -3);
            Check.due("BEST for Right", x.best(7, 1), 0);
        }
    }

    private static void best() {
        Check.says(0, "BEST for Left: a MOVE after which the RIGHT SCORE of the SUM is greatest; for Right: the LEFT SCORE least");
        GatheredPoints x = Check.with("<1|-1>", "<9|-9>", "<5|-5>", "<-5,8,3|-2,-7,6>");
        Check.due("Left's of three", x.best(7, 0), 100);
        Check.due("Right's of three", x.best(7, 1), 100);
        Check.due("Left's of two", x.best(5, 0), 200);
        Check.due("Left's number", x.best(8, 0), 302);
        Check.due("Right's number", x.best(8, 1), 300);
        Check.says(0, "of several that of the least SLOT, of these with the least number");
        GatheredPoints y = Check.with("0", "<3,<3|3>|3,<3|3>>", "<3|3>", "<3|3>", "0", "<<0|0>,<1|0>|-9>", "<5|0>", "<5|0>");
        Check.due("the least number", y.best(2, 0), 100);
        Check.due("the least number, Right's", y.best(2, 1), 100);
        Check.due("the least SLOT", y.best(12, 0), 200);
        Check.due("the least SLOT, Right's", y.best(12, 1), 200);
        Check.due("the least SLOT of three", y.best(13, 1), 200);
        Check.due("both", y.best(192, 0), 600);
        Check.due("of numbers that are as good", y.best(32, 0), 500);
        Check.says(16, "100 times the SLOT, and the number");
        for (int s = 0; s < 8; s++) {
            GatheredPoints z = new GatheredPoints();
            Check.read(z, s, "<-2,-1|1,2>");
            Check.due("SLOT " + s, z.best(1 << s, 0), 100 * s + 1);
            Check.due("SLOT " + s + ", Right's", z.best(1 << s, 1), 100 * s);
        }
        Check.says(16, "NONE: it is SHUT in all.");
        GatheredPoints z = Check.with("<:1|2>", "<1|:2>", "3");
        Check.due("Left is in these", z.best(5, 0), Check.NONE);
        Check.due("Right isn't", z.best(5, 1), 0);
        Check.due("Right is in these", z.best(6, 1), Check.NONE);
        Check.due("Left isn't", z.best(6, 0), 100);
        Check.due("all three", z.best(7, 0), 100);
    }

    private static void begin() {
        Check.says(17, "1 if it is OVER, else 0");
        GatheredPoints x = Check.with("<:1|2>", "<1|:2>", "3", "<:4|:5>");
        Check.due("Left's turn, Left is SHUT", x.begin(1, 0), 1);
        Check.due("Right's turn, Right isn't", x.begin(1, 1), 0);
        Check.due("Right's turn, Right is SHUT", x.begin(2, 1), 1);
        Check.due("Left's turn, Left isn't", x.begin(2, 0), 0);
        Check.due("both are", x.begin(4, 0), 1);
        Check.due("SHUT in one alone", x.begin(3, 0), 0);
        Check.due("SHUT in all three", x.begin(13, 0), 1);
        Check.says(17, "in place of one ahead");
        x.begin(3, 0);
        x.go(1, 0);
        x.begin(13, 1);
        Check.due("its set", x.matchOf(5), 13);
        Check.due("its side", x.matchOf(0), 1);
        Check.due("its MOVES", x.matchOf(1), 0);
        Check.due("no MOVE to tell", x.moved(0), Check.NONE);
        Check.due("no MOVE to take back", x.back(), Check.NONE);
        Check.due("no BOARD of the one ahead", x.board(1, 7), Check.NONE);
        Check.says(17, "BEYOND: no set of one to three, side.");
        Check.due("refused", x.begin(15, 0), Check.BEYOND);
        Check.due("refused", x.begin(1, 2), Check.BEYOND);
        Check.due("the one ahead goes on", x.matchOf(5), 13);
        Check.due("Right goes", x.go(0, 0), 1);
        Check.says(0, "the BOARDS are the GAMES that stand there then (SLOTS stay)");
        GatheredPoints y = Check.with("<<9|8>|7>", "<1|0>");
        y.begin(3, 0);
        y.waits(0, 0);
        y.waits(1, 3);
        Check.due("the MATCH has its own", y.go(0, 0), 0);
        Check.due("SLOTS stay", y.gameOf(0, 0), 1);
        Check.due("SLOTS stay", y.gameOf(1, 0), 4);
        Check.due("what stands there", y.board(0, 7), 3);
        Check.due("LEFT SCORE of <9|8>", y.gameOf(7, 6), 9);
    }

    private static void over() {
        Check.says(0, "it is OVER, if that side is SHUT in all BOARDS; its POINTS are the numbers there together");
        GatheredPoints x = Check.with("<:10|:200>", "<<:1|:2>|<:3|:4>>", "5");
        x.begin(7, 0);
        Check.due("Left goes", x.go(1, 0), 1);
        Check.due("Right's turn: Right's numbers", x.matchOf(3), 207);
        x.begin(7, 1);
        Check.due("Right goes", x.go(1, 0), 1);
        Check.due("Left's turn: Left's numbers", x.matchOf(3), 18);
        x.begin(1, 0);
        Check.due("of one, Left", x.matchOf(3), 10);
        x.begin(1, 1);
        Check.due("of one, Right", x.matchOf(3), 200);
        x.begin(5, 0);
        Check.due("of two", x.matchOf(3), 15);
    }

    private static void go() {
        Check.says(18, "The side whose turn it is takes a MOVE: 1 if the MATCH is OVER then, else 0.");
        GatheredPoints x = Check.with("<<:0|3>|5>", "<1,2|:9>", "<7|:8>");
        Check.due("NONE: there is no MATCH", x.go(0, 0), Check.NONE);
        x.begin(3, 0);
        Check.due("Left goes", x.go(0, 0), 0);
        Check.due("Right goes", x.go(0, 0), 0);
        Check.due("Left goes, Right is SHUT", x.go(1, 1), 1);
        Check.due("2 stands there", x.board(1, 7), 1);
        Check.due("2", x.gameOf(7, 4), 2);
        Check.says(18, "STATE: it is OVER.");
        Check.due("any MOVE", x.go(0, 0), Check.STATE);
        Check.due("one that was there", x.go(1, 0), Check.STATE);
        Check.due("one that isn't", x.go(9, -9), Check.STATE);
        Check.says(18, "BEYOND: it is no SLOT of it, or there is no such OPTION.");
        x.begin(3, 0);
        Check.due("SLOT 2 isn't", x.go(2, 0), Check.BEYOND);
        Check.due("one too far", x.go(1, 2), Check.BEYOND);
        Check.due("one below", x.go(1, -1), Check.BEYOND);
        Check.due("the last", x.go(1, 1), 0);
        Check.due("Right is SHUT there", x.go(1, 0), Check.BEYOND);
        Check.due("Left's OPTIONS aren't Right's", x.go(0, 1), Check.BEYOND);
        Check.due("Right goes", x.go(0, 0), 1);
        Check.due("how many", x.count(3), 2);
    }

    /** A MATCH of n MOVES, whatever is taken: as many waits for both sides. */
    private static GatheredPoints waiting(int n, int side) {
        GatheredPoints x = new GatheredPoints();
        int first = (n + 1) / 2;
        int second = n / 2;
        x.waits(0, side == 0 ? first : second);
        x.waits(1, side == 0 ? second : first);
        x.negate(1, 1);
        x.begin(3, side);
        return x;
    }

    private static void play() {
        Check.says(19, "n MOVES (1 to 20; fewer, if it is OVER) that are BEST");
        for (int n : new int[] {1, 2, 19, 20}) {
            for (int side = 0; side < 2; side++) {
                GatheredPoints x = waiting(20, side);
                Check.due("play " + n, x.play(n), n);
                Check.due("MOVES", x.matchOf(1), n);
                Check.due("OVER", x.matchOf(2), n == 20 ? 1 : 0);
                Check.due("fewer", x.play(20), 20 - n);
                Check.due("OVER", x.matchOf(2), 1);
                Check.due("none", x.play(1), 0);
                Check.due("none is added", x.matchOf(1), 20);
            }
        }
        GatheredPoints x = waiting(21, 0);
        Check.due("no more than 20", x.play(20), 20);
        Check.due("not OVER", x.matchOf(2), 0);
        Check.due("0", x.play(0), Check.BEYOND);
        Check.due("21", x.play(21), Check.BEYOND);
        Check.due("they changed nothing", x.matchOf(1), 20);
        Check.due("one is left", x.play(2), 1);
        Check.says(19, "each for the side whose turn it is: how many were taken");
        GatheredPoints y = Check.with("<<9|-9>|<8|-8>>", "<2,6|-4,-1>");
        for (int side = 0; side < 2; side++) {
            y.begin(3, side);
            int value = y.matchOf(4);
            Check.due("the score", value, y.score(3, side));
            Check.due("BEST", y.best(3, side), side == 0 ? 101 : 100);
            Check.due("all", y.play(20), 3);
            Check.due("POINTS", y.matchOf(3), value);
            Check.due("the first was BEST", y.moved(0), side == 0 ? 101 : 100);
        }
        Check.due("z stays", y.count(4), 1);
    }

    private static void loose() {
        Check.says(20, "n MOVES by draws (1 to 20; fewer, if it is OVER)");
        for (int n : new int[] {1, 2, 19, 20}) {
            GatheredPoints x = waiting(20, 0);
            Check.due("loose " + n, x.loose(n), n);
            Check.due("OVER", x.matchOf(2), n == 20 ? 1 : 0);
            Check.due("fewer", x.loose(20), 20 - n);
            Check.due("none", x.loose(20), 0);
            int z = 1;
            for (int k = 0; k < 20; k++) {
                z = z * 1103515245 + 12345;
            }
            Check.due("a draw for each MOVE, none more", x.count(4), z);
        }
        GatheredPoints x = waiting(21, 1);
        Check.due("no more than 20", x.loose(20), 20);
        Check.due("one is left", x.loose(2), 1);
        Check.due("0", x.loose(0), Check.BEYOND);
        Check.due("21", x.loose(21), Check.BEYOND);
    }

    private static void draws() {
        Check.says(20, "z becomes z * 1103515245 + 12345 (an int)");
        int[] seeds = {1, 0, -1, 2, 77777, Check.MOST, Check.LEAST, 1103515245, -12345};
        for (int seed : seeds) {
            GatheredPoints x = Check.with("<1,2,3|:9>", "<4,5,6,7|:9>");
            x.seed(seed);
            x.begin(3, 0);
            x.loose(1);
            int z = (int) (seed * 1103515245L + 12345L);
            Check.due("z behind " + seed, x.count(4), z);
            int place = (int) ((z & 0xffffffffL) / 256 % 7);
            Check.due("the MOVE", x.moved(0), place < 3 ? place : 97 + place);
        }
        Check.says(20, "of all MOVES of the side whose turn it is, by SLOTS, of these by numbers, that at the place (from 0)"
                + " which z >>> 8 leaves by how many there are");
        boolean[] seen = new boolean[7];
        for (int seed = 0; seed < 60; seed++) {
            GatheredPoints x = Check.with("0", "<:0|1,2>", "0", "<9|:9>", "<:0|3,4,5,6,7>");
            x.seed(seed * 1000003);
            x.begin(2 + 8 + 16, 1);
            x.loose(1);
            int z = (int) (seed * 1000003 * 1103515245L + 12345L);
            int place = (int) ((z & 0xffffffffL) / 256 % 7);
            seen[place] = true;
            Check.due("seed " + seed, x.moved(0), place < 2 ? 100 + place : 398 + place);
        }
        for (int place = 0; place < 7; place++) {
            Check.due("place " + place + " was drawn", seen[place] ? 1 : 0, 1);
        }
    }

    private static void back() {
        Check.says(21, "The latest MOVE that was taken is taken back (by whatever it was taken): how many are left.");
        GatheredPoints x = Check.with("<w2,3|2>", "<5|<6|-7>>");
        x.begin(3, 0);
        Check.due("by hand", x.go(0, 1), 0);
        Check.due("by the best", x.play(1), 1);
        Check.due("by a draw", x.loose(1), 1);
        int drawn = x.count(4);
        int[] turns = {0, 1, 0};
        for (int left = 2; left >= 0; left--) {
            Check.due("how many are left", x.back(), left);
            Check.due("whose turn", x.matchOf(0), turns[left]);
            Check.due("not OVER", x.matchOf(2), 0);
            Check.due("it isn't told", x.moved(left), Check.NONE);
        }
        Check.due("z stays", x.count(4), drawn);
        x.board(0, 6);
        Check.due("as it began", x.order(0, 6), 0);
        x.board(1, 6);
        Check.due("as it began", x.order(1, 6), 0);
        Check.says(21, "NONE: there is no MATCH, or no MOVE.");
        Check.due("no MOVE", x.back(), Check.NONE);
        Check.due("no MOVE, again", x.back(), Check.NONE);
        Check.due("no MATCH", new GatheredPoints().back(), Check.NONE);
        Check.due("it can go on", x.play(20) > 0 ? 1 : 0, 1);
        Check.due("OVER", x.matchOf(2), 1);
        Check.due("back from the end", x.back(), x.count(3));
        Check.due("not OVER then", x.matchOf(2), 0);
        Check.due("another MOVE in its place", x.loose(1), 1);
    }

    private static void matchOf() {
        Check.says(22, "what 0 whose turn it is, 1 how many MOVES were taken, 2 1 if it is OVER, else 0, 3 its POINTS");
        GatheredPoints x = Check.with("<<2|-1>|5>", "0", "0", "0", "0", "0", "0", "<:4|:6>");
        x.begin(129, 0);
        see(x, 0, 0, 0, Check.STATE, 3, 129);
        x.go(0, 0);
        see(x, 1, 1, 0, Check.STATE, 3, 129);
        x.go(0, 0);
        see(x, 0, 2, 1, 3, 3, 129);
        x.back();
        see(x, 1, 1, 0, Check.STATE, 3, 129);
        x.begin(128, 1);
        see(x, 1, 0, 1, 6, 6, 128);
        x.begin(128, 0);
        see(x, 0, 0, 1, 4, 4, 128);
        Check.says(22, "4 what they will be if both sides go on with what is BEST");
        GatheredPoints y = Check.with("<9|-9>", "<5|-5>");
        y.begin(3, 0);
        Check.due("at first", y.matchOf(4), 4);
        y.go(1, 0);
        Check.due("behind a bad MOVE", y.matchOf(4), -4);
        y.back();
        Check.due("taken back", y.matchOf(4), 4);
        y.go(0, 0);
        y.go(1, 0);
        Check.due("OVER: the POINTS", y.matchOf(4), 4);
        Check.says(22, "STATE (what 3): it isn't OVER.");
        y.back();
        Check.due("it isn't", y.matchOf(3), Check.STATE);
    }

    private static void see(GatheredPoints x, int... wants) {
        for (int what = 0; what < wants.length; what++) {
            Check.due("what " + what, x.matchOf(what), wants[what]);
        }
    }

    private static void moved() {
        Check.says(23, "The i-th MOVE that was taken: 100 times the SLOT, and the number.");
        GatheredPoints x = Check.with("0", "0", "<1,2|:9>", "0", "0", "<:0|3,4,<5|6>>", "0", "<<7|8>|8>");
        x.begin(4 + 32 + 128, 0);
        x.go(2, 1);
        x.go(5, 2);
        x.go(7, 0);
        x.go(7, 0);
        x.go(5, 0);
        int[] moves = {201, 502, 700, 700, 500};
        for (int i = 0; i < 5; i++) {
            Check.due("MOVE " + i, x.moved(i), moves[i]);
        }
        Check.says(23, "NONE: there is no MATCH, no such MOVE.");
        Check.due("one too far", x.moved(5), Check.NONE);
        Check.due("one below", x.moved(-1), Check.NONE);
        x.back();
        Check.due("taken back", x.moved(4), Check.NONE);
        Check.due("the last one then", x.moved(3), 700);
        Check.due("no MATCH", new GatheredPoints().moved(0), Check.NONE);
    }

    private static void board() {
        Check.says(24, "A SLOT holds what stands on the BOARD of a SLOT (of the MATCH): its SIZE.");
        GatheredPoints x = Check.with("<<4|1>|2>", "0", "<3|-2>");
        x.begin(5, 0);
        Check.due("as it began", x.board(0, 7), 5);
        x.go(0, 0);
        Check.due("behind a MOVE", x.board(0, 6), 3);
        Check.due("the other BOARD", x.board(2, 5), 3);
        Check.due("the same", x.order(2, 5), 0);
        Check.due("into a SLOT of the MATCH", x.board(0, 2), 3);
        Check.due("its BOARD stays", x.board(2, 4), 3);
        Check.due("<3|-2>", x.order(5, 4), 0);
        x.go(0, 0);
        Check.due("at the end", x.board(0, 0), 1);
        Check.due("1", x.gameOf(0, 4), 1);
        Check.due("the MATCH goes on", x.back(), 1);
        Check.due("<4|1> again", x.board(0, 0), 3);
        Check.says(24, "NONE: there is no MATCH, or that is no SLOT of it.");
        Check.due("SLOT 1", x.board(1, 0), Check.NONE);
        Check.due("no MATCH", new GatheredPoints().board(0, 0), Check.NONE);
        Check.says(24, "BEYOND: no SLOT.");
        Check.due("of", x.board(8, 0), Check.BEYOND);
        Check.due("into", x.board(0, 8), Check.BEYOND);
        Check.due("ahead of NONE", x.board(1, 8), Check.BEYOND);
    }

    /** Three BOARDS of SIZE 60, DEPTH 59: nothing is longer. */
    private static void longest() {
        Check.says(0, "each side in turn takes a MOVE");
        // a row of followers, in each of which both sides have one OPTION: 59 MOVES on each BOARD
        GatheredPoints x = new GatheredPoints();
        Check.read(x, 7, "<0|0>");
        for (int k = 0; k < 59; k++) {
            Check.due("SIZE", x.join(0, 7, 0), k + 2);
        }
        Check.due("DEPTH", x.gameOf(0, 1), 59);
        x.join(0, 1, 1);
        x.join(0, 2, 2);
        Check.due("LEFT SCORE", x.score(7, 0), 0);
        Check.due("begin", x.begin(7, 1), 0);
        for (int k = 0; k < 8; k++) {
            Check.due("20 more", k % 2 == 0 ? x.play(20) : x.loose(20), 20);
        }
        Check.due("17 more", x.loose(20), 17);
        Check.due("MOVES", x.matchOf(1), 177);
        Check.due("OVER", x.matchOf(2), 1);
        Check.due("POINTS", x.matchOf(3), 0);
        Check.due("the first is told", x.moved(0), 0);
        Check.due("the last is told", x.moved(176) % 100, 0);
        for (int k = 176; k >= 0; k--) {
            Check.due("back", x.back(), k);
        }
        Check.due("as it began", x.board(2, 6), 60);
    }
}
