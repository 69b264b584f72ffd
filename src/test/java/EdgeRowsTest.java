/** Each sentence on SHEETS, draws, IMAGES and what is told that names a boundary case (promises 25 to 34). */
public final class EdgeRowsTest {
    public static void main(String[] args) {
        sheet();
        missing();
        put();
        number();
        shift();
        shiftLimits();
        judge();
        seed();
        image();
        restore();
        count();
        told();
        manyCalls();
        Check.finish();
    }

    private static void sheet() {
        Check.says(25, "A SHEET has n numbers, all 0, of so many bits (8, 16, 32; 0: it is missing, n doesn't matter): 1.");
        GatheredPoints x = new GatheredPoints();
        int[] widths = {8, 16, 32};
        for (int k = 0; k < 4; k++) {
            for (int bits : widths) {
                Check.due("20 of " + bits, x.sheet(k, bits, 20), 1);
                Check.due("the last is 0", x.number(k, 19), 0);
                Check.due("none behind it", x.number(k, 20), Check.BEYOND);
                x.put(k, 0, 5);
                x.put(k, 19, -5);
            }
            Check.due("anew", x.sheet(k, 16, 20), 1);
            Check.due("all 0", x.number(k, 0), 0);
            Check.due("all 0", x.number(k, 19), 0);
            x.put(k, 1, 6);
            Check.due("fewer", x.sheet(k, 16, 1), 1);
            Check.due("no second", x.number(k, 1), Check.BEYOND);
            Check.due("more", x.sheet(k, 16, 2), 1);
            Check.due("the second is 0", x.number(k, 1), 0);
        }
        Check.says(0, "SHEETS 0 to 3 are rows of numbers of 8, 16 or 32 bits (with a sign), at most 20");
        Check.due("20", x.sheet(0, 8, 20), 1);
        Check.due("21", x.sheet(0, 8, 21), Check.BEYOND);
        Check.due("none", x.sheet(0, 8, 0), 1);
        Check.due("it isn't missing", x.number(0, 0), Check.BEYOND);
        Check.due("-1", x.sheet(0, 8, -1), Check.STATE);
        for (int k = 0; k < 4; k++) {
            x.sheet(k, 32, 1);
            x.put(k, 0, 100 + k);
        }
        for (int k = 0; k < 4; k++) {
            Check.due("each has its own", x.number(k, 0), 100 + k);
        }
    }

    private static void missing() {
        Check.says(25, "0: it is missing, n doesn't matter");
        GatheredPoints x = new GatheredPoints();
        for (int n : new int[] {0, 1, 20, 21, -1, Check.LEAST, Check.MOST}) {
            x.sheet(2, 8, 3);
            Check.due("it is there", x.number(2, 2), 0);
            Check.due("n " + n, x.sheet(2, 0, n), 1);
            Check.due("missing", x.number(2, 0), Check.NONE);
            Check.due("missing, again", x.sheet(2, 0, n), 1);
        }
        Check.due("no ERROR but NONE", x.told(1) + x.told(3), 0);
    }

    private static void puts(GatheredPoints x, int bits, int v, int want) {
        Check.due("put " + v, x.put(0, 1, v), 1);
        Check.due(v + " of " + bits + " bits", x.number(0, 1), want);
    }

    private static void put() {
        Check.says(26, "Number i of a SHEET becomes v (its lowest bits): 1.");
        GatheredPoints x = new GatheredPoints();
        x.sheet(0, 8, 3);
        int[] bytes = {0, 127, 128, 255, 256, 383, 384, -1, -128, -129, -256, Check.MOST, Check.LEAST, 0x12345680};
        int[] asBytes = {0, 127, -128, -1, 0, 127, -128, -1, -128, 127, 0, -1, 0, -128};
        for (int k = 0; k < bytes.length; k++) {
            puts(x, 8, bytes[k], asBytes[k]);
        }
        x.sheet(0, 16, 3);
        int[] shorts = {128, 32767, 32768, 65535, 65536, -32768, -32769, -65536, Check.MOST, Check.LEAST, 0x12348000};
        int[] asShorts = {128, 32767, -32768, -1, 0, -32768, 32767, 0, -1, 0, -32768};
        for (int k = 0; k < shorts.length; k++) {
            puts(x, 16, shorts[k], asShorts[k]);
        }
        x.sheet(0, 32, 3);
        for (int v : new int[] {32768, -32769, 65536, Check.MOST, Check.LEAST, -1}) {
            puts(x, 32, v, v);
        }
        Check.due("the one ahead stays", x.number(0, 0), 0);
        Check.due("the one behind stays", x.number(0, 2), 0);
        Check.says(26, "BEYOND: no such number.");
        Check.due("the first", x.put(0, 0, 1), 1);
        Check.due("the last", x.put(0, 2, 1), 1);
        Check.due("one too far", x.put(0, 3, 1), Check.BEYOND);
        Check.due("one below", x.put(0, -1, 1), Check.BEYOND);
        x.sheet(1, 8, 0);
        Check.due("of none", x.put(1, 0, 1), Check.BEYOND);
    }

    private static void number() {
        Check.says(27, "(A number may be as an ERROR is.)");
        GatheredPoints x = new GatheredPoints();
        x.sheet(0, 32, 2);
        for (int e = 1; e <= 6; e++) {
            x.put(0, 1, Check.LOW - e);
            Check.due("LOW - " + e, x.number(0, 1), Check.LOW - e);
            Check.due("it is none", x.told(e), 0);
        }
        Check.says(27, "BEYOND: no such number.");
        Check.due("the first", x.number(0, 0), 0);
        Check.due("one too far", x.number(0, 2), Check.BEYOND);
        Check.due("one below", x.number(0, -1), Check.BEYOND);
        Check.due("these are", x.told(1), 2);
    }

    private static void rowIs(GatheredPoints x, int sheet, int... wants) {
        for (int i = 0; i < wants.length; i++) {
            Check.due("SHEET " + sheet + ", number " + i, x.number(sheet, i), wants[i]);
        }
        Check.due("none behind", x.number(sheet, wants.length), Check.BEYOND);
    }

    private static void shift() {
        Check.says(28, "n numbers of a SHEET, from number i on, come to another one (or the same), from its number j on, as they all were: n.");
        GatheredPoints x = new GatheredPoints();
        Check.row(x, 0, 8, 1, 2, 3, 4, 5);
        Check.due("upward", x.shift(0, 0, 0, 1, 4), 4);
        rowIs(x, 0, 1, 1, 2, 3, 4);
        Check.row(x, 0, 8, 1, 2, 3, 4, 5);
        Check.due("upward by two", x.shift(0, 0, 0, 2, 3), 3);
        rowIs(x, 0, 1, 2, 1, 2, 3);
        Check.row(x, 0, 8, 1, 2, 3, 4, 5);
        Check.due("downward", x.shift(0, 1, 0, 0, 4), 4);
        rowIs(x, 0, 2, 3, 4, 5, 5);
        Check.due("in its place", x.shift(0, 0, 0, 0, 5), 5);
        rowIs(x, 0, 2, 3, 4, 5, 5);
        Check.row(x, 1, 8, 7, 8, 9);
        Check.due("to another one", x.shift(0, 3, 1, 1, 2), 2);
        rowIs(x, 1, 7, 5, 5);
        rowIs(x, 0, 2, 3, 4, 5, 5);
        Check.due("from it", x.shift(1, 0, 0, 4, 1), 1);
        rowIs(x, 0, 2, 3, 4, 5, 7);
        Check.row(x, 2, 32, Check.MOST, Check.LEAST);
        x.sheet(3, 32, 20);
        Check.due("of 32 bits", x.shift(2, 0, 3, 18, 2), 2);
        Check.due("greatest", x.number(3, 18), Check.MOST);
        Check.due("least", x.number(3, 19), Check.LEAST);
        Check.due("all twenty", x.shift(3, 0, 3, 0, 20), 20);
    }

    private static void shiftLimits() {
        Check.says(28, "BEYOND: n, i or j is below 0, or they don't stand there.");
        GatheredPoints x = new GatheredPoints();
        Check.row(x, 0, 8, 1, 2, 3, 4, 5);
        Check.row(x, 1, 8, 7, 8, 9);
        Check.due("none, at the start", x.shift(0, 0, 1, 0, 0), 0);
        Check.due("none, at the ends", x.shift(0, 5, 1, 3, 0), 0);
        Check.due("none, behind the one's end", x.shift(0, 6, 1, 3, 0), Check.BEYOND);
        Check.due("none, behind the other one's end", x.shift(0, 5, 1, 4, 0), Check.BEYOND);
        Check.due("up to both ends", x.shift(0, 2, 1, 0, 3), 3);
        Check.due("one too far in the one", x.shift(0, 3, 1, 0, 3), Check.BEYOND);
        Check.due("one too far in the other one", x.shift(0, 2, 1, 1, 3), Check.BEYOND);
        Check.due("more than the other one has", x.shift(0, 0, 1, 0, 4), Check.BEYOND);
        Check.due("n below", x.shift(0, 3, 1, 3, -1), Check.BEYOND);
        Check.due("i below", x.shift(0, -1, 1, 0, 1), Check.BEYOND);
        Check.due("j below", x.shift(0, 0, 1, -1, 1), Check.BEYOND);
        Check.due("i and n that wrap round", x.shift(0, Check.MOST, 1, 0, Check.MOST), Check.BEYOND);
        Check.due("j and n that wrap round", x.shift(0, 0, 1, Check.MOST, 3), Check.BEYOND);
        Check.due("i and n that wrap round", x.shift(0, 1, 1, 0, Check.MOST), Check.BEYOND);
        rowIs(x, 0, 1, 2, 3, 4, 5);
        rowIs(x, 1, 3, 4, 5);
        Check.says(28, "KIND: they are of unlike bits.");
        x.sheet(2, 16, 3);
        x.sheet(3, 32, 3);
        int[][] pairs = {{0, 2}, {2, 0}, {0, 3}, {3, 0}, {2, 3}, {3, 2}};
        for (int[] pair : pairs) {
            Check.due(pair[0] + " to " + pair[1], x.shift(pair[0], 0, pair[1], 0, 1), Check.KIND);
        }
        Check.says(28, "NONE: one is missing.");
        x.sheet(3, 0, 0);
        Check.due("the other one", x.shift(2, 0, 3, 0, 1), Check.NONE);
        Check.due("the one", x.shift(3, 0, 2, 0, 1), Check.NONE);
    }

    private static void judge() {
        Check.says(29, "Numbers of a SHEET are LEFT SCORES (side 0), RIGHT SCORES (1) of what SLOTS 0, 1, .. hold:"
                + " the first place that isn't so (one beyond SLOTS, too); -1: all are.");
        String[] games = {"<5|-3>", "4", "<:1|:2>", "<<9|8>|7>", "w3", "-5", "<0|6>", "<:-9|:9>"};
        GatheredPoints x = Check.with(games);
        int[] lefts = {5, 4, 1, 8, 0, -5, 0, -9};
        int[] rights = {-3, 4, 2, 7, 0, -5, 6, 9};
        for (int n = 0; n <= 8; n++) {
            x.sheet(0, 8, n);
            x.sheet(1, 32, n);
            for (int i = 0; i < n; i++) {
                x.put(0, i, lefts[i]);
                x.put(1, i, rights[i]);
            }
            Check.due("LEFT SCORES of " + n, x.judge(0, 0), -1);
            Check.due("RIGHT SCORES of " + n, x.judge(1, 1), -1);
        }
        Check.due("LEFT SCORES aren't RIGHT SCORES", x.judge(0, 1), 0);
        for (int i = 7; i >= 0; i--) {
            x.put(0, i, lefts[i] + 1);
            Check.due("the first place", x.judge(0, 0), i);
        }
        Check.row(x, 1, 16, rights);
        for (int n = 9; n <= 20; n += 11) {
            x.sheet(2, 16, n);
            x.shift(1, 0, 2, 0, 8);
            Check.due("one beyond SLOTS", x.judge(2, 1), 8);
        }
        x.put(2, 3, 0);
        Check.due("one ahead of it", x.judge(2, 1), 3);
        x.sheet(3, 8, 0);
        Check.due("no number: all are", x.judge(3, 0), -1);
        Check.says(29, "NONE: the SHEET is missing.");
        x.sheet(3, 0, 0);
        Check.due("missing", x.judge(3, 1), Check.NONE);
    }

    private static void seed() {
        Check.says(30, "z becomes v (1 at first): what it was (any number).");
        GatheredPoints x = new GatheredPoints();
        int[] some = {0, -1, Check.MOST, Check.LEAST, Check.BEYOND, Check.NONE, Check.STATE, Check.FULL, Check.KIND, Check.BIG, 5};
        int was = 1;
        for (int v : some) {
            Check.due("what it was", x.seed(v), was);
            Check.due("z", x.count(4), v);
            was = v;
        }
        for (int k = 1; k <= 6; k++) {
            Check.due("no ERROR", x.told(k), 0);
        }
    }

    private static void image() {
        Check.says(31, "What all SLOTS hold, and z, is kept as an IMAGE, in place of one ahead: how often that was done.");
        GatheredPoints x = new GatheredPoints();
        for (int s = 0; s < 8; s++) {
            x.waits(s, s + 2);
        }
        x.seed(44);
        Check.due("once", x.image(), 1);
        Check.due("SLOTS stay", x.count(0), 52);
        Check.due("z stays", x.count(4), 44);
        for (int s = 0; s < 8; s++) {
            x.waits(s, 0);
        }
        x.seed(45);
        Check.due("all come back", x.restore(), 52);
        for (int s = 0; s < 8; s++) {
            Check.due("SLOT " + s, x.gameOf(s, 1), s + 2);
        }
        Check.due("z comes back", x.count(4), 44);
        x.waits(0, 0);
        Check.due("twice, in place of it", x.image(), 2);
        x.waits(0, 9);
        Check.due("the second", x.restore(), 50);
        Check.due("a restore isn't counted", x.image(), 3);
    }

    private static void restore() {
        Check.says(32, "SLOTS and z are as the IMAGE has them, which stays (a MATCH goes on): the SIZES of all SLOTS together.");
        GatheredPoints x = Check.with("<<1|2>|3>", "<4|5>");
        x.image();
        x.begin(3, 0);
        x.go(0, 0);
        Check.row(x, 0, 8, 7);
        Feed.text(x, "99");
        x.waits(0, 9);
        x.seed(8);
        for (int k = 0; k < 3; k++) {
            Check.due("it stays", x.restore(), 14);
            Check.due("SLOT 0", x.gameOf(0, 0), 5);
            Check.due("z", x.count(4), 1);
            x.waits(0, k);
            x.waits(7, 3);
            x.seed(k);
        }
        Check.due("a MATCH goes on", x.matchOf(1), 1);
        Check.due("a MATCH goes on", x.go(0, 0), 0);
        Check.due("SHEETS stay", x.number(0, 0), 7);
        Check.due("THE TAPE stays", x.count(2), 2);
        Check.says(32, "NONE: there is none.");
        GatheredPoints y = new GatheredPoints();
        Check.due("none", y.restore(), Check.NONE);
        y.image();
        Check.due("of 0 alone", y.restore(), 8);
    }

    private static void count() {
        Check.says(33, "0 SIZES of all SLOTS together, 1 how many SLOTS hold a SURE one, 2 bytes of THE TAPE");
        GatheredPoints x = new GatheredPoints();
        for (int s = 0; s < 8; s++) {
            Check.due("SURE ones", x.count(1), 8 - s);
            Check.due("SIZES", x.count(0), 8 + s);
            Check.read(x, s, "<:2|:1>");
            Check.due("SIZES", x.count(0), 8 + s);
            Check.read(x, s, "<:2|0>");
        }
        Check.due("no SURE one", x.count(1), 0);
        for (int s = 0; s < 8; s++) {
            Check.read(x, s, Check.SIXTY);
        }
        Check.due("the most", x.count(0), 480);
        Check.due("SURE ones", x.count(1), 8);
        for (int k = 1; k <= 12; k++) {
            x.feed(0L, 8);
            Check.due("bytes", x.count(2), 8 * k);
        }
        Check.says(33, "3 how many MOVES were taken in the MATCH (0 if there is none), 4 z (any number)");
        Check.due("no MATCH", x.count(3), 0);
        x.begin(1, 0);
        Check.due("no MOVE", x.count(3), 0);
        x.go(0, 0);
        Check.due("one", x.count(3), 1);
        x.seed(Check.FULL);
        Check.due("z", x.count(4), Check.FULL);
        Check.due("it is no ERROR", x.told(4), 0);
    }

    private static void told() {
        Check.says(34, "How many acts have answered an ERROR LOW - k (k 1 to 6)");
        GatheredPoints x = Check.with("<:3|:2>", "<5|-3>", Check.SIXTY);
        Check.plain(x, 4, 99999);
        int[] wants = {0, 0, 0, 0, 0, 0};
        for (int round = 1; round <= 6; round++) {
            for (int k = round; k <= 6; k++) {
                refuse(x, k);
                wants[k - 1]++;
            }
            for (int k = 1; k <= 6; k++) {
                Check.due("told " + k, x.told(k), wants[k - 1]);
            }
        }
        Check.says(34, "BEYOND: another k (counted, too).");
        Check.due("0", x.told(0), Check.BEYOND);
        Check.due("7", x.told(7), Check.BEYOND);
        Check.due("counted", x.told(1), 3);
        Check.due("the others aren't", x.told(2), 2);
        Check.says(0, "ERRORS are answers below -1000000000: LOW is -1000000000; LOW - 1 BEYOND, LOW - 2 NONE, LOW - 3 STATE, LOW - 4 FULL,"
                + " LOW - 5 KIND, LOW - 6 BIG.");
        for (int k = 1; k <= 6; k++) {
            Check.due("ERROR " + k, refuse(x, k), -1000000000 - k);
        }
        Check.due("answers that aren't below LOW are none", x.game(0), -10);
        int[] then = {4, 3, 4, 5, 6, 7};
        for (int k = 1; k <= 6; k++) {
            Check.due("told " + k, x.told(k), then[k - 1]);
        }
    }

    private static int refuse(GatheredPoints x, int k) {
        switch (k) {
            case 1: return x.game(9);
            case 2: return x.go(0, 0);
            case 3: return x.compare(0, 0);
            case 4: return x.join(2, 2, 2);
            case 5: return x.answer(1, 3, 0, 0);
            default: return x.join(4, 4, 4);
        }
    }

    private static void manyCalls() {
        Check.says(0, "An object is used for at most 512 calls after it has been made");
        GatheredPoints x = new GatheredPoints();
        for (int k = 0; k < 511; k++) {
            Check.due("refused", x.told(7), Check.BEYOND);
        }
        Check.due("the 512th", x.told(1), 511);
        GatheredPoints y = new GatheredPoints();
        for (int k = 1; k <= 512; k++) {
            Check.due("images", y.image(), k);
        }
    }
}
