import java.util.Arrays;

/**
 * Every refused call, one for each cause that the document names, and one for each pair of ERRORS
 * of which one is asked ahead. Each is done to one of two twins; then all that can be seen of both
 * is looked at: only what told() tells may be unlike, by one.
 */
public final class RefusalTest {
    /** One call on an object. */
    private interface Call {
        int on(GatheredPoints x);
    }

    /** How an object stands ahead of the call. */
    private enum Scene {
        /** A MATCH that goes on, an IMAGE, SHEETS, a TAPE that has a TEXT. */
        RICH,
        /** The same with no MATCH, and no IMAGE. */
        BARE,
        /** The same with a MATCH in which no MOVE was taken. */
        BEGUN,
        /** The same with a MATCH that is OVER. */
        OVER,
        /** The same with a TAPE of 100 bytes. */
        TAPED
    }

    private static final int[] NO_SLOTS = {-1, 8, Check.LEAST, Check.MOST};
    private static final int[] NO_SIDES = {-1, 2, Check.LEAST, Check.MOST};
    private static final int[] NO_SHEETS = {-1, 4, Check.LEAST, Check.MOST};
    private static final int[] NO_SETS = {0, -1, 15, 30, 240, 255, 256, 257, 512, 65537, Check.LEAST, Check.MOST};

    public static void main(String[] args) {
        nothingChanges();
        tapeAndTexts();
        gamesOfNumbers();
        gamesOfGames();
        looks();
        atLeast();
        sums();
        goingOn();
        lookingAtMatches();
        sheets();
        rest();
        Check.finish();
    }

    private static GatheredPoints stage(Scene scene) {
        GatheredPoints x = new GatheredPoints();
        Check.read(x, 0, "<5|-3>");
        Check.read(x, 1, "<<9|5>|2>");
        Check.read(x, 2, "<:3|:2>");
        if (scene != Scene.BARE) {
            x.seed(4711);
            x.image();
        }
        Check.read(x, 3, Check.SIXTY);
        Check.plain(x, 4, 99999);
        Check.read(x, 5, "<1,2|-1,-2>");
        Check.read(x, 6, "<:1|5>");
        Check.row(x, 0, 8, 1, 2, 3);
        x.sheet(1, 16, 0);
        Check.row(x, 2, 32, 100000, 7);
        x.seed(77);
        if (scene == Scene.TAPED) {
            Feed.text(x, "1+".repeat(49) + "10");
        } else {
            Feed.text(x, "<7|2>");
        }
        if (scene != Scene.BARE) {
            x.begin(1 + 2 + 32, 0);
        }
        if (scene == Scene.RICH || scene == Scene.TAPED) {
            x.go(1, 0);
            x.go(0, 0);
        }
        if (scene == Scene.OVER) {
            x.play(20);
        }
        return x;
    }

    /** All that can be seen; behind what told() tells, which comes first. */
    private static int[] view(GatheredPoints x) {
        int[] seen = new int[400];
        int n = 0;
        for (int k = 1; k <= 6; k++) {
            seen[n++] = x.told(k);
        }
        for (int what = 0; what < 5; what++) {
            seen[n++] = x.count(what);
        }
        n = viewSlots(x, seen, n);
        for (int sheet = 0; sheet < 4; sheet++) {
            for (int i = 0; i < 4; i++) {
                seen[n++] = x.number(sheet, i);
            }
            seen[n++] = x.put(sheet, 0, 98765);
            seen[n++] = x.number(sheet, 0);
        }
        for (int what = 0; what < 6; what++) {
            seen[n++] = x.matchOf(what);
        }
        for (int k = 0; k < 4; k++) {
            seen[n++] = x.moved(k);
        }
        for (int s = 0; s < 8; s++) {
            seen[n++] = x.board(s, 7);
            seen[n++] = x.order(s, 7);
        }
        seen[n++] = x.restore();
        seen[n++] = x.count(4);
        n = viewSlots(x, seen, n);
        seen[n++] = x.image();
        seen[n++] = x.game(0);
        seen[n++] = x.gameOf(0, 6);
        seen[n++] = x.gameOf(0, 7);
        return seen;
    }

    private static int viewSlots(GatheredPoints x, int[] seen, int from) {
        int n = from;
        for (int s = 0; s < 8; s++) {
            for (int what = 0; what <= 12; what++) {
                seen[n++] = x.gameOf(s, what);
            }
        }
        return n;
    }

    private static void refused(Scene scene, int error, String what, Call call) {
        GatheredPoints x = stage(scene);
        Check.due(what, call.on(x), error);
        int[] want = view(stage(scene));
        want[Check.LOW - error - 1]++;
        same(what, view(x), want);
    }

    private static void same(String what, int[] got, int[] want) {
        int unlike = Arrays.mismatch(got, want);
        Check.due(what + ": first thing that is unlike then", unlike, -1);
    }

    private static void beyond(String what, Call call) {
        refused(Scene.RICH, Check.BEYOND, what, call);
    }

    private static void beyondFor(String what, int[] some, CallWith call) {
        for (int v : some) {
            beyond(what + " " + v, x -> call.on(x, v));
        }
    }

    /** One call with a number that varies. */
    private interface CallWith {
        int on(GatheredPoints x, int v);
    }

    private static void nothingChanges() {
        Check.says(0, "one that answers an ERROR changes nothing but what told() tells and, where told, THE TAPE.");
        for (Scene scene : Scene.values()) {
            same("twins are alike in scene " + scene, view(stage(scene)), view(stage(scene)));
            refused(scene, Check.BEYOND, "in scene " + scene, x -> x.gameOf(8, 0));
        }
        // what is looked at isn't blind: calls that are not refused are seen
        seen("a SLOT", x -> x.waits(7, 1));
        seen("THE TAPE", x -> x.feed(0x37L, 1));
        seen("z", x -> x.seed(5));
        seen("an IMAGE", x -> x.image());
        seen("a MOVE", x -> x.go(1, 0));
        seen("a MOVE back", x -> x.back());
        seen("a MATCH", x -> x.begin(1, 0));
        seen("a number", x -> x.put(0, 2, 9));
        seen("bits", x -> x.sheet(1, 8, 0) + x.sheet(0, 16, 3) + x.put(0, 0, 1) + x.put(0, 1, 2) + x.put(0, 2, 3));
        seen("a SHEET", x -> x.sheet(3, 8, 0));
    }

    private static void seen(String what, Call call) {
        GatheredPoints x = stage(Scene.RICH);
        call.on(x);
        Check.due(what + " is seen", Arrays.equals(view(x), view(stage(Scene.RICH))) ? 0 : 1, 1);
    }

    private static void tapeAndTexts() {
        Check.says(2, "BEYOND.");
        beyondFor("n", new int[] {0, 9, -1, Check.LEAST, Check.MOST}, (x, n) -> x.feed(0x3131313131313131L, n));
        Check.says(2, "FULL.");
        refused(Scene.TAPED, Check.FULL, "101 bytes", x -> x.feed(0x31L, 1));
        Check.says(0, "Each act tells its ERRORS in the order in which they are asked");
        refused(Scene.TAPED, Check.BEYOND, "feed: BEYOND, FULL", x -> x.feed(0x31L, 9));
        Check.says(3, "BEYOND (THE TAPE stays).");
        beyondFor("slot", NO_SLOTS, (x, s) -> x.game(s));
        Check.says(4, "BEYOND (THE TAPE stays).");
        beyondFor("slot", NO_SLOTS, (x, s) -> x.strip(s));
        Check.says(0, "Each act tells its ERRORS in the order in which they are asked");
        beyondWithBadTape("game", x -> x.game(8));
        beyondWithBadTape("strip", x -> x.strip(8));
        Check.says(3, "-10 less the FAULT (no ERROR; the SLOT stays).");
        emptied("a FAULT", "<1|2>+", -16, x -> x.game(0));
        emptied("no byte", "", -10, x -> x.game(0));
        Check.says(3, "FULL, BIG: what a part of the TEXT is");
        emptied("FULL", Check.SIXTY_ONE, Check.FULL, x -> x.game(0));
        Check.says(4, "-10 less the place of the first byte that is none (the ninth, too; 0, if there is no byte; no ERROR).");
        emptied("a wrong byte", "l0x", -12, x -> x.strip(0));
        emptied("the ninth", "l0000000r", -18, x -> x.strip(0));
        emptied("no byte", "", -10, x -> x.strip(0));
        Check.says(4, "FULL.");
        emptied("FULL", "ll5939rr", Check.FULL, x -> x.strip(0));
    }

    /** BEYOND is asked ahead of what THE TAPE has, which stays. */
    private static void beyondWithBadTape(String what, Call call) {
        GatheredPoints x = stage(Scene.RICH);
        x.feed(0x78L, 1);
        GatheredPoints twin = stage(Scene.RICH);
        twin.feed(0x78L, 1);
        Check.due(what + " with a bad TAPE", call.on(x), Check.BEYOND);
        int[] want = view(twin);
        want[0]++;
        same(what, view(x), want);
    }

    /** A call that reads a TAPE and holds nothing: as if there had been no TAPE. */
    private static void emptied(String what, String tape, int answer, Call call) {
        GatheredPoints x = stage(Scene.RICH);
        x.game(7);
        Feed.text(x, tape);
        GatheredPoints twin = stage(Scene.RICH);
        twin.game(7);
        Check.due(what, call.on(x), answer);
        int[] want = view(twin);
        if (answer < Check.LOW) {
            want[Check.LOW - answer - 1]++;
        }
        same(what, view(x), want);
    }

    private static void gamesOfNumbers() {
        Check.says(5, "BEYOND: no such SLOT, SHEET.");
        beyondFor("slot", NO_SLOTS, (x, s) -> x.ladder(s, 0));
        beyondFor("sheet", NO_SHEETS, (x, s) -> x.ladder(0, s));
        beyond("ahead of NONE", x -> x.ladder(8, 3));
        beyond("ahead of BIG", x -> x.ladder(8, 2));
        Check.says(5, "NONE: the SHEET is missing, or has no number.");
        refused(Scene.RICH, Check.NONE, "missing", x -> x.ladder(0, 3));
        refused(Scene.RICH, Check.NONE, "no number", x -> x.ladder(0, 1));
        Check.says(5, "BIG.");
        refused(Scene.RICH, Check.BIG, "100000", x -> x.ladder(0, 2));
        Check.says(6, "BEYOND.");
        beyondFor("slot", NO_SLOTS, (x, s) -> x.waits(s, 1));
        beyondFor("n", new int[] {-1, 21, Check.LEAST, Check.MOST}, (x, n) -> x.waits(0, n));
    }

    private static void gamesOfGames() {
        Check.says(7, "BEYOND.");
        beyondFor("one", NO_SLOTS, (x, s) -> x.join(s, 0, 0));
        beyondFor("other", NO_SLOTS, (x, s) -> x.join(0, s, 0));
        beyondFor("into", NO_SLOTS, (x, s) -> x.join(0, 0, s));
        beyond("ahead of FULL", x -> x.join(3, 3, 8));
        beyond("ahead of BIG", x -> x.join(4, 4, 8));
        Check.says(7, "FULL.");
        refused(Scene.RICH, Check.FULL, "far above 60", x -> x.join(3, 1, 0));
        Check.says(7, "BIG.");
        refused(Scene.RICH, Check.BIG, "199998", x -> x.join(4, 4, 0));
        Check.says(8, "BEYOND.");
        beyondFor("slot", NO_SLOTS, (x, s) -> x.negate(s, 0));
        beyondFor("into", NO_SLOTS, (x, s) -> x.negate(0, s));
        Check.says(9, "BEYOND: SLOTS, side.");
        beyondFor("slot", NO_SLOTS, (x, s) -> x.option(s, 0, 0, 1));
        beyondFor("side", NO_SIDES, (x, s) -> x.option(0, s, 0, 1));
        beyondFor("into", NO_SLOTS, (x, s) -> x.option(0, 0, 0, s));
        beyond("ahead of NONE", x -> x.option(0, 0, 9, 8));
        Check.says(9, "NONE: there is none such.");
        for (int i : new int[] {-1, 2, Check.LEAST, Check.MOST}) {
            refused(Scene.RICH, Check.NONE, "i " + i, x -> x.option(5, 0, i, 1));
            refused(Scene.RICH, Check.NONE, "i " + i, x -> x.option(5, 1, i, 1));
        }
        refused(Scene.RICH, Check.NONE, "Left is SHUT", x -> x.option(6, 0, 0, 1));
        refused(Scene.RICH, Check.NONE, "Right is SHUT", x -> x.option(3, 1, 0, 1));
    }

    private static void looks() {
        Check.says(10, "BEYOND.");
        beyondFor("slot", NO_SLOTS, (x, s) -> x.gameOf(s, 0));
        beyondFor("what", new int[] {-1, 13, Check.LEAST, Check.MOST}, (x, what) -> x.gameOf(0, what));
        Check.says(10, "NONE (what 4, 5): it isn't SHUT.");
        refused(Scene.RICH, Check.NONE, "Left", x -> x.gameOf(0, 4));
        refused(Scene.RICH, Check.NONE, "Right", x -> x.gameOf(0, 5));
        refused(Scene.RICH, Check.NONE, "Right alone", x -> x.gameOf(6, 5));
        refused(Scene.RICH, Check.NONE, "Left alone", x -> x.gameOf(3, 4));
        Check.says(11, "BEYOND.");
        beyondFor("one", NO_SLOTS, (x, s) -> x.order(s, 0));
        beyondFor("other", NO_SLOTS, (x, s) -> x.order(0, s));
    }

    private static void atLeast() {
        Check.says(12, "BEYOND.");
        beyondFor("one", NO_SLOTS, (x, s) -> x.compare(s, 0));
        beyondFor("other", NO_SLOTS, (x, s) -> x.compare(0, s));
        beyond("ahead of STATE", x -> x.compare(2, 8));
        Check.says(12, "STATE: one isn't SURE.");
        refused(Scene.RICH, Check.STATE, "the one", x -> x.compare(2, 0));
        refused(Scene.RICH, Check.STATE, "the other one", x -> x.compare(0, 2));
        refused(Scene.RICH, Check.STATE, "both", x -> x.compare(2, 2));
        Check.says(13, "BEYOND: SLOTS, side.");
        beyondFor("one", NO_SLOTS, (x, s) -> x.answer(s, 0, 0, 0));
        beyondFor("other", NO_SLOTS, (x, s) -> x.answer(0, s, 0, 0));
        beyondFor("side", NO_SIDES, (x, s) -> x.answer(0, 0, s, 0));
        beyond("ahead of STATE", x -> x.answer(2, 2, 2, 0));
        Check.says(13, "STATE: one isn't SURE.");
        refused(Scene.RICH, Check.STATE, "the one, ahead of KIND", x -> x.answer(2, 4, 0, 0));
        refused(Scene.RICH, Check.STATE, "the other one, ahead of NONE", x -> x.answer(4, 2, 0, 0));
        Check.says(13, "KIND: it isn't AT LEAST that.");
        refused(Scene.RICH, Check.KIND, "unlike", x -> x.answer(0, 5, 0, 0));
        refused(Scene.RICH, Check.KIND, "ahead of NONE", x -> x.answer(7, 4, 0, 0));
        Check.says(13, "NONE: there is no such OPTION.");
        for (int i : new int[] {-1, 2, 60, 100, Check.LEAST, Check.MOST}) {
            refused(Scene.RICH, Check.NONE, "i " + i, x -> x.answer(5, 5, 0, i));
            refused(Scene.RICH, Check.NONE, "i " + i, x -> x.answer(5, 5, 1, i));
        }
        refused(Scene.RICH, Check.NONE, "a SHUT side", x -> x.answer(4, 7, 1, 0));
        Check.says(14, "BEYOND.");
        beyondFor("slot", NO_SLOTS, (x, s) -> x.reduce(s, 0));
        beyondFor("into", NO_SLOTS, (x, s) -> x.reduce(0, s));
        beyond("ahead of STATE", x -> x.reduce(2, 8));
        Check.says(14, "STATE: it isn't SURE.");
        refused(Scene.RICH, Check.STATE, "not SURE", x -> x.reduce(2, 0));
    }

    private static void sums() {
        Check.says(15, "BEYOND: no set of one to three, side.");
        beyondFor("set", NO_SETS, (x, set) -> x.score(set, 0));
        beyondFor("side", NO_SIDES, (x, s) -> x.score(1, s));
        Check.says(16, "BEYOND: no set of one to three, side.");
        beyondFor("set", NO_SETS, (x, set) -> x.best(set, 1));
        beyondFor("side", NO_SIDES, (x, s) -> x.best(1, s));
        beyond("ahead of NONE", x -> x.best(128, 2));
        Check.says(16, "NONE: it is SHUT in all.");
        refused(Scene.RICH, Check.NONE, "both sides", x -> x.best(16 + 128, 0));
        refused(Scene.RICH, Check.NONE, "Left's", x -> x.best(64, 0));
        refused(Scene.RICH, Check.NONE, "Right's", x -> x.best(8 + 128, 1));
        Check.says(17, "BEYOND: no set of one to three, side.");
        beyondFor("set", NO_SETS, (x, set) -> x.begin(set, 0));
        beyondFor("side", NO_SIDES, (x, s) -> x.begin(1, s));
    }

    private static void goingOn() {
        Check.says(18, "NONE: there is no MATCH.");
        refused(Scene.BARE, Check.NONE, "no MATCH", x -> x.go(0, 0));
        refused(Scene.BARE, Check.NONE, "ahead of BEYOND", x -> x.go(8, 0));
        Check.says(18, "STATE: it is OVER.");
        refused(Scene.OVER, Check.STATE, "OVER", x -> x.go(0, 0));
        refused(Scene.OVER, Check.STATE, "ahead of BEYOND", x -> x.go(8, 0));
        Check.says(18, "BEYOND: it is no SLOT of it, or there is no such OPTION.");
        beyondFor("slot", NO_SLOTS, (x, s) -> x.go(s, 0));
        beyondFor("none of it", new int[] {2, 3, 4, 6, 7}, (x, s) -> x.go(s, 0));
        beyondFor("no OPTION", new int[] {-1, 2, Check.LEAST, Check.MOST}, (x, i) -> x.go(5, i));
        beyond("SHUT there", x -> x.go(0, 0));
        Check.says(19, "BEYOND.");
        int[] counts = {0, -1, 21, Check.LEAST, Check.MOST};
        beyondFor("n", counts, (x, n) -> x.play(n));
        refused(Scene.BARE, Check.BEYOND, "ahead of NONE", x -> x.play(0));
        refused(Scene.OVER, Check.BEYOND, "OVER, too", x -> x.play(21));
        Check.says(19, "NONE: there is no MATCH.");
        refused(Scene.BARE, Check.NONE, "no MATCH", x -> x.play(1));
        Check.says(20, "BEYOND.");
        beyondFor("n", counts, (x, n) -> x.loose(n));
        refused(Scene.BARE, Check.BEYOND, "ahead of NONE", x -> x.loose(0));
        refused(Scene.OVER, Check.BEYOND, "OVER, too", x -> x.loose(21));
        Check.says(20, "NONE: there is no MATCH.");
        refused(Scene.BARE, Check.NONE, "no MATCH", x -> x.loose(1));
        Check.says(21, "NONE: there is no MATCH, or no MOVE.");
        refused(Scene.BARE, Check.NONE, "no MATCH", x -> x.back());
        refused(Scene.BEGUN, Check.NONE, "no MOVE", x -> x.back());
    }

    private static void lookingAtMatches() {
        Check.says(22, "BEYOND.");
        int[] whats = {-1, 6, Check.LEAST, Check.MOST};
        beyondFor("what", whats, (x, what) -> x.matchOf(what));
        refused(Scene.BARE, Check.BEYOND, "ahead of NONE", x -> x.matchOf(6));
        Check.says(22, "NONE: there is no MATCH.");
        for (int what = 0; what < 6; what++) {
            int w = what;
            refused(Scene.BARE, Check.NONE, "what " + w, x -> x.matchOf(w));
        }
        Check.says(22, "STATE (what 3): it isn't OVER.");
        refused(Scene.RICH, Check.STATE, "not OVER", x -> x.matchOf(3));
        refused(Scene.BEGUN, Check.STATE, "not OVER", x -> x.matchOf(3));
        Check.says(23, "NONE: there is no MATCH, no such MOVE.");
        refused(Scene.BARE, Check.NONE, "no MATCH", x -> x.moved(0));
        refused(Scene.BEGUN, Check.NONE, "no MOVE", x -> x.moved(0));
        for (int i : new int[] {-1, 2, 180, Check.LEAST, Check.MOST}) {
            refused(Scene.RICH, Check.NONE, "i " + i, x -> x.moved(i));
        }
        Check.says(24, "BEYOND: no SLOT.");
        beyondFor("of", NO_SLOTS, (x, s) -> x.board(s, 7));
        beyondFor("into", NO_SLOTS, (x, s) -> x.board(0, s));
        refused(Scene.BARE, Check.BEYOND, "ahead of NONE", x -> x.board(0, 8));
        Check.says(24, "NONE: there is no MATCH, or that is no SLOT of it.");
        refused(Scene.BARE, Check.NONE, "no MATCH", x -> x.board(0, 7));
        for (int s : new int[] {2, 3, 4, 6, 7}) {
            refused(Scene.RICH, Check.NONE, "none of it", x -> x.board(s, 1));
        }
    }

    private static void sheets() {
        Check.says(25, "BEYOND: no such SHEET, bits.");
        beyondFor("sheet", NO_SHEETS, (x, s) -> x.sheet(s, 8, 1));
        beyondFor("sheet, missing then", NO_SHEETS, (x, s) -> x.sheet(s, 0, 1));
        beyondFor("bits", new int[] {-1, 1, 7, 9, 15, 17, 24, 31, 33, 64, -8, Check.LEAST, Check.MOST}, (x, b) -> x.sheet(0, b, 1));
        beyond("ahead of STATE", x -> x.sheet(0, 7, -1));
        beyond("ahead of STATE", x -> x.sheet(4, 8, -1));
        Check.says(25, "STATE: n is below 0.");
        refused(Scene.RICH, Check.STATE, "-1", x -> x.sheet(0, 8, -1));
        refused(Scene.RICH, Check.STATE, "least", x -> x.sheet(0, 32, Check.LEAST));
        Check.says(25, "BEYOND: n is above 20.");
        beyondFor("n", new int[] {21, Check.MOST}, (x, n) -> x.sheet(0, 16, n));
        Check.says(26, "BEYOND: no such SHEET.");
        beyondFor("sheet", NO_SHEETS, (x, s) -> x.put(s, 0, 1));
        Check.says(26, "NONE: it is missing.");
        refused(Scene.RICH, Check.NONE, "missing", x -> x.put(3, 0, 1));
        refused(Scene.RICH, Check.NONE, "ahead of BEYOND", x -> x.put(3, -1, 1));
        Check.says(26, "BEYOND: no such number.");
        beyondFor("i", new int[] {-1, 3, 20, Check.LEAST, Check.MOST}, (x, i) -> x.put(0, i, 1));
        beyond("of none", x -> x.put(1, 0, 1));
        Check.says(27, "BEYOND: no such SHEET.");
        beyondFor("sheet", NO_SHEETS, (x, s) -> x.number(s, 0));
        Check.says(27, "NONE: it is missing.");
        refused(Scene.RICH, Check.NONE, "missing", x -> x.number(3, 0));
        refused(Scene.RICH, Check.NONE, "ahead of BEYOND", x -> x.number(3, -1));
        Check.says(27, "BEYOND: no such number.");
        beyondFor("i", new int[] {-1, 3, 20, Check.LEAST, Check.MOST}, (x, i) -> x.number(0, i));
        beyond("of none", x -> x.number(1, 0));
        shifts();
    }

    private static void shifts() {
        Check.says(28, "BEYOND: no such SHEET.");
        beyondFor("sheet", NO_SHEETS, (x, s) -> x.shift(s, 0, 0, 0, 1));
        beyondFor("other", NO_SHEETS, (x, s) -> x.shift(0, 0, s, 0, 1));
        beyond("ahead of NONE", x -> x.shift(3, 0, 4, 0, 1));
        Check.says(28, "NONE: one is missing.");
        refused(Scene.RICH, Check.NONE, "the one", x -> x.shift(3, 0, 0, 0, 1));
        refused(Scene.RICH, Check.NONE, "the other one", x -> x.shift(0, 0, 3, 0, 1));
        refused(Scene.RICH, Check.NONE, "both", x -> x.shift(3, 0, 3, 0, 0));
        refused(Scene.RICH, Check.NONE, "ahead of KIND and BEYOND", x -> x.shift(0, -1, 3, -1, -1));
        Check.says(28, "KIND: they are of unlike bits.");
        refused(Scene.RICH, Check.KIND, "8 and 32", x -> x.shift(0, 0, 2, 0, 1));
        refused(Scene.RICH, Check.KIND, "16 and 32", x -> x.shift(1, 0, 2, 0, 0));
        refused(Scene.RICH, Check.KIND, "ahead of BEYOND", x -> x.shift(0, -1, 1, -1, -1));
        Check.says(28, "BEYOND: n, i or j is below 0, or they don't stand there.");
        for (int below : new int[] {-1, Check.LEAST}) {
            beyond("n", x -> x.shift(0, 0, 0, 1, below));
            beyond("n, with i that makes up for it", x -> x.shift(0, 2, 0, 2, below));
            beyond("i", x -> x.shift(0, below, 0, 0, 2));
            beyond("j", x -> x.shift(0, 0, 0, below, 2));
        }
        for (int far : new int[] {3, 4, 20, Check.MOST}) {
            beyond("i", x -> x.shift(0, far, 0, 0, 1));
            beyond("j", x -> x.shift(0, 0, 0, far, 1));
        }
        for (int far : new int[] {4, 20, Check.MOST}) {
            beyond("n", x -> x.shift(0, 0, 0, 0, far));
            beyond("of no number", x -> x.shift(0, far, 0, 0, 0));
            beyond("of no number", x -> x.shift(0, 0, 0, far, 0));
        }
        beyond("i and n", x -> x.shift(0, 2, 0, 0, 2));
        beyond("j and n", x -> x.shift(0, 0, 0, 2, 2));
        beyond("to an empty one", x -> x.shift(1, 0, 1, 0, 1));
    }

    private static void rest() {
        Check.says(29, "BEYOND.");
        beyondFor("sheet", NO_SHEETS, (x, s) -> x.judge(s, 0));
        beyondFor("side", NO_SIDES, (x, s) -> x.judge(0, s));
        beyond("ahead of NONE", x -> x.judge(3, 2));
        Check.says(29, "NONE: the SHEET is missing.");
        refused(Scene.RICH, Check.NONE, "missing", x -> x.judge(3, 0));
        Check.says(32, "NONE: there is none.");
        refused(Scene.BARE, Check.NONE, "no IMAGE", x -> x.restore());
        Check.says(33, "BEYOND.");
        beyondFor("what", new int[] {-1, 5, Check.LEAST, Check.MOST}, (x, what) -> x.count(what));
        Check.says(34, "BEYOND: another k (counted, too).");
        beyondFor("k", new int[] {0, 7, -1, Check.LEAST, Check.MOST}, (x, k) -> x.told(k));
    }
}
