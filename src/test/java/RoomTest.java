import java.lang.management.ManagementFactory;

/**
 * Dear runs of 512 calls stay well within the room that one run has: 600,000 objects and arrays,
 * 7.3 million fields and elements. What is made is measured in bytes: an element takes four or
 * eight of them, an object's head sixteen, so 24,000,000 bytes are a safe bound.
 */
public final class RoomTest {
    private static final long BYTES = 24_000_000L;
    private static int wrong;

    public static void main(String[] args) {
        com.sun.management.ThreadMXBean threads =
                (com.sun.management.ThreadMXBean) ManagementFactory.getThreadMXBean();
        for (int kind = 0; kind < 5; kind++) {
            long before = threads.getCurrentThreadAllocatedBytes();
            long start = System.nanoTime();
            run(kind);
            long made = threads.getCurrentThreadAllocatedBytes() - before;
            System.out.println("run " + kind + ": " + made + " bytes, " + (System.nanoTime() - start) / 1000000 + " ms");
            if (made > BYTES) {
                wrong++;
                System.out.println("that is too much");
            }
        }
        if (wrong != 0) {
            System.exit(1);
        }
    }

    private static void run(int kind) {
        GatheredPoints x = new GatheredPoints();
        int calls = fillSlots(x);
        while (calls < 512) {
            calls += act(x, kind, calls);
        }
    }

    /** Three deep games, three bushy ones, all of SIZES near 60. */
    private static int fillSlots(GatheredPoints x) {
        int calls = 0;
        for (int s = 0; s < 3; s++) {
            x.waits(s, 20);
            x.waits(3, 20);
            x.join(s, 3, s);
            x.waits(3, 18 - s);
            x.join(s, 3, s);
            calls += 5;
        }
        calls += Feed.text(x, "<<9|-3>|<4|-8>>+<7,w1|-9>+3");
        x.game(3);
        calls += Feed.text(x, "<<9|-3>|<4|-8>>+<8|-9>+<7|-1>");
        x.game(4);
        calls += Feed.text(x, "ll0220rr");
        x.strip(5);
        return calls + 3;
    }

    private static int act(GatheredPoints x, int kind, int k) {
        switch (kind) {
            case 0:
                // another sum each time: scores are made anew
                x.negate(k % 6, k % 6);
                x.score(7, 0);
                x.begin(7, 1);
                x.play(20);
                return 4;
            case 1:
                x.negate(k % 6, 6);
                x.reduce(6, 7);
                x.compare(6, 7);
                x.answer(6, 7, 0, 0);
                return 4;
            case 2: {
                int calls = Feed.text(x, "1+1+1+1+1+1+1+1+1+1+1+1+1+1+1+1+1+1+1+1+1+1+1+1+1+1+1+1+1+1+1+1"
                        + "+1+1+1+1+1+1+1+1+1+1+1+1+1+1+1+1+1+w9");
                x.game(7);
                return calls + 1;
            }
            case 3: {
                int calls = Feed.text(x, "w9+w9+w9+w9+w9+w9+w5,".substring(0, 20));
                x.game(7);
                x.join(7, 0, 6);
                return calls + 2;
            }
            default:
                x.join(k % 6, (k + 1) % 6, 7);
                x.gameOf(7, 8);
                x.board(0, 6);
                x.option(k % 6, 0, 0, 6);
                return 4;
        }
    }
}
