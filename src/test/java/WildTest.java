import java.util.Random;

/**
 * Calls with any arguments in any state, by (fixed) draws: none throws, each ends, and every ERROR
 * that is answered is one of the document's. Some objects are used for far more than 512 calls.
 */
public final class WildTest {
    private static final int[] EDGES = {Integer.MIN_VALUE, Integer.MIN_VALUE + 1, -1000000001, -100001, -100, -9, -8, -2, -1, 0, 1, 2, 3, 4, 5, 6,
        7, 8, 9, 12, 13, 15, 16, 19, 20, 21, 31, 32, 33, 59, 60, 61, 63, 64, 99, 100, 101, 127, 128, 255, 256, 99999, 100000, 65536,
        Integer.MAX_VALUE - 1, Integer.MAX_VALUE};
    private static final String SIGNS = "<<<<|>>>:,+--www0123456789lr";
    private static final String[] TEXTS = {"<5|-3>", "<<9|5>|2>", "<1,2|-1,-2>", "w9+w9+w9+w9+w9+w9+w5", "<:3|:2>", "<1|2>+<3|5>+<9|17>",
        "-<w3,4|<:0|w2>>", "<<3|<0|-2>>|<<1|3>|3>>", "999+999"};
    private static final String[] STRIPS = {"l12r", "ll0220rr", "l7l0r3r", "00000000", "rl", "l000000r"};
    private static int wrong;

    private final Random random;
    private final GatheredPoints x = new GatheredPoints();

    private WildTest(long seed) {
        random = new Random(seed);
    }

    public static void main(String[] args) {
        for (int run = 0; run < 400; run++) {
            WildTest test = new WildTest(run * 104729L + 7);
            for (int k = run % 40 == 0 ? 4000 : 512; k > 0; k--) {
                test.act(k);
            }
        }
        System.out.println(wrong + " wrong");
        if (wrong != 0) {
            System.exit(1);
        }
    }

    private int v(int most) {
        return random.nextInt(6) == 0 ? EDGES[random.nextInt(EDGES.length)] : random.nextInt(most);
    }

    private void act(int k) {
        int call = random.nextInt(36);
        int answer = call < 3 ? bring() : call < 14 ? games(call) : call < 26 ? matches(call) : rest(call);
        // numbers of SHEETS and z may be as an ERROR is
        boolean any = call == 28 || call == 31 || call == 35;
        if (!any && answer < -300000 && (answer > -1000000001 || answer < -1000000006)) {
            wrong++;
            System.out.println("call " + call + " with " + k + " to go answered " + answer);
        }
    }

    private int bring() {
        int kind = random.nextInt(4);
        if (kind == 0) {
            StringBuilder made = new StringBuilder();
            for (int n = random.nextInt(30); n > 0; n--) {
                made.append(SIGNS.charAt(random.nextInt(SIGNS.length())));
            }
            Feed.text(x, made.toString());
            return random.nextBoolean() ? x.game(v(8)) : x.strip(v(8));
        }
        if (kind == 1) {
            return x.feed(random.nextLong(), v(9));
        }
        if (kind == 2) {
            x.strip(0);
            Feed.text(x, STRIPS[random.nextInt(STRIPS.length)]);
            return x.strip(v(8));
        }
        x.game(0);
        Feed.text(x, TEXTS[random.nextInt(TEXTS.length)]);
        return x.game(v(8));
    }

    private int games(int call) {
        switch (call) {
            case 3: return x.ladder(v(8), v(4));
            case 4: return x.waits(v(8), v(21));
            case 5: case 6: return x.join(v(8), v(8), v(8));
            case 7: return x.negate(v(8), v(8));
            case 8: return x.option(v(8), v(2), v(3), v(8));
            case 9: return x.gameOf(v(8), v(13));
            case 10: return x.order(v(8), v(8));
            case 11: return x.compare(v(8), v(8));
            case 12: return x.answer(v(8), v(8), v(2), v(3));
            default: return x.reduce(v(8), v(8));
        }
    }

    private int matches(int call) {
        int set = 1 << random.nextInt(8) | 1 << random.nextInt(8) | 1 << random.nextInt(8);
        switch (call) {
            case 14: return x.score(random.nextInt(5) == 0 ? v(256) : set, v(2));
            case 15: return x.best(random.nextInt(5) == 0 ? v(256) : set, v(2));
            case 16: return x.begin(random.nextInt(5) == 0 ? v(256) : set, v(2));
            case 17: case 18: return x.go(v(8), v(3));
            case 19: return x.play(v(21));
            case 20: return x.loose(v(21));
            case 21: return x.back();
            case 22: case 23: return x.matchOf(v(6));
            case 24: return x.moved(v(20));
            default: return x.board(v(8), v(8));
        }
    }

    private int rest(int call) {
        switch (call) {
            case 26: return x.sheet(v(4), new int[] {0, 8, 16, 32, v(33)}[random.nextInt(5)], v(21));
            case 27: return x.put(v(4), v(20), v(1000));
            case 28: return x.number(v(4), v(20));
            case 29: return x.shift(v(4), v(20), v(4), v(20), v(20));
            case 30: return x.judge(v(4), v(2));
            case 31: return x.seed(random.nextInt());
            case 32: return x.image();
            case 33: return x.restore();
            case 34: return x.told(v(7));
            default: return x.count(v(5));
        }
    }
}
