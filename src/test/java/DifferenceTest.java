import java.util.List;
import java.util.Random;

/** Runs of calls by draws (always the same ones), on the program and on PlainPoints. */
public final class DifferenceTest {
    private static final int CALLS = 512;
    private static int wrong;

    private final Random random;
    private final GatheredPoints real = new GatheredPoints();
    private final PlainPoints plain = new PlainPoints();
    private final StringBuilder log = new StringBuilder();
    private final int flavour;
    /** Such a run makes games, and compares and reduces them, and does little else. */
    private final boolean deep;
    private int calls;
    private boolean broken;
    private boolean heavyMatch;

    private DifferenceTest(long seed) {
        random = new Random(seed);
        flavour = random.nextInt(4);
        deep = random.nextInt(3) == 0;
    }

    public static void main(String[] args) {
        int from = args.length > 1 ? Integer.parseInt(args[1]) : 0;
        int runs = args.length > 2 ? Integer.parseInt(args[2]) : 600;
        for (int run = from; run < from + runs && wrong < 5; run++) {
            new DifferenceTest(run * 7919L + 13).go(run);
        }
        System.out.println(runs + " runs, " + wrong + " wrong");
        if (wrong != 0) {
            System.exit(1);
        }
    }

    private void go(int run) {
        while (calls < CALLS && !broken) {
            act();
        }
        if (broken) {
            wrong++;
            System.out.println("run " + run + ":\n" + log);
        }
    }

    private void same(String call, int got, int want) {
        calls++;
        log.append(call).append(" = ").append(got).append('\n');
        if (got != want && !broken) {
            log.append("    due is ").append(want).append('\n');
            broken = true;
        }
    }

    private int draw(int n) {
        return random.nextInt(n);
    }

    private boolean rarely() {
        return draw(40) == 0;
    }

    private int wild() {
        int[] some = {-1, 8, 9, 100, -100, Integer.MAX_VALUE, Integer.MIN_VALUE, 2, 3, 255, 256, 21};
        return some[draw(some.length)];
    }

    private int slot() {
        return rarely() ? wild() : draw(8);
    }

    /** Rather a slot with something in it. */
    private int fullSlot() {
        int s = draw(8);
        for (int k = 0; k < 6 && plain.depth(s) == 0; k++) {
            s = draw(8);
        }
        return rarely() ? wild() : s;
    }

    /** Rather a slot with little in it, so that what is rich stays. */
    private int poorSlot() {
        int s = draw(8);
        for (int k = 0; k < 6 && plain.depth(s) > 1; k++) {
            s = draw(8);
        }
        return rarely() ? wild() : s;
    }

    private int choice(int slot, int side) {
        int n = slot >= 0 && slot < 8 && (side == 0 || side == 1) ? plain.choices(slot, side) : 0;
        return draw(20) == 0 ? wild() : n == 0 ? 0 : draw(n + (draw(10) == 0 ? 1 : 0));
    }

    private int side() {
        return rarely() ? wild() : draw(2);
    }

    private int set() {
        if (rarely()) {
            return rarely() ? wild() : draw(260);
        }
        int made = 0;
        for (int k = draw(3); k >= 0; k--) {
            made |= 1 << (fullSlot() & 7);
        }
        return made;
    }

    private int sheet() {
        return rarely() ? wild() : draw(4);
    }

    private void feed(String text) {
        for (int k = 0; k < text.length(); k += 8) {
            int n = Math.min(8, text.length() - k);
            long word = (long) random.nextInt() << 32 & (n == 8 ? 0 : -1L << 8 * n);
            for (int i = 0; i < n; i++) {
                word |= (long) (text.charAt(k + i) & 255) << 8 * i;
            }
            same("feed(" + word + "L, " + n + ")", real.feed(word, n), plain.feed(word, n));
        }
        log.append("    // ").append(text).append('\n');
    }

    private String text(int open, int room) {
        StringBuilder made = new StringBuilder(unit(open, room));
        while (draw(7) == 0 && made.length() < room) {
            made.append('+').append(unit(open, room));
        }
        return made.toString();
    }

    private String unit(int open, int room) {
        int kind = draw(10);
        if (kind == 0 && open > 0) {
            return "-" + unit(open - 1, room - 1);
        }
        if (kind == 1) {
            return "w" + draw(draw(3) == 0 ? 10 : 3);
        }
        if (kind < 4 || open <= 0 || room < 6) {
            int most = flavour == 0 ? 3 : flavour == 1 ? 10 : flavour == 2 ? 60 : 1000;
            return (draw(2) == 0 && open > 0 ? "-" : "") + draw(most);
        }
        return "<" + sideText(open - 1, room / 2, true) + "|" + sideText(open - 1, room / 2, false) + ">";
    }

    private String sideText(int open, int room, boolean left) {
        if (draw(5) == 0) {
            int kind = draw(3);
            if (kind == 0) {
                return ":" + (draw(2) == 0 ? "-" : "") + draw(flavour == 3 ? 1000 : 4);
            }
            return ":" + (left ? "-" : "") + (kind == 1 ? 999 : 30);
        }
        StringBuilder made = new StringBuilder(text(open, room));
        while (draw(3) == 0 && made.length() < room) {
            made.append(',').append(text(open, room));
        }
        return made.toString();
    }

    private String spoilt(String text) {
        if (draw(6) != 0 || text.isEmpty()) {
            return text;
        }
        String signs = "<>|:,+-w019 xlr\u00ff";
        int place = draw(text.length());
        char sign = signs.charAt(draw(signs.length()));
        switch (draw(4)) {
            case 0: return text.substring(0, place) + sign + text.substring(place + 1);
            case 1: return text.substring(0, place) + sign + text.substring(place);
            case 2: return text.substring(0, place) + text.substring(place + 1);
            default: return text.substring(0, place);
        }
    }

    private void readGame() {
        String text = text(draw(9), 10 + draw(50));
        feed(spoilt(text.length() > 110 ? text.substring(0, 110) : text));
        int s = slot();
        same("game(" + s + ")", real.game(s), plain.game(s));
    }

    private void readStrip() {
        StringBuilder made = new StringBuilder();
        int points = 1 + draw(10);
        boolean alone = draw(4) == 0;
        for (int k = Math.min(8, 1 + draw(12)); k > 0; k--) {
            int kind = draw(flavour == 0 ? 3 : 5);
            made.append(kind == 0 ? 'l' : kind == 1 && !alone ? 'r' : (char) ('0' + draw(points)));
        }
        feed(draw(10) == 0 ? spoilt(made.toString() + "0") : made.toString());
        int s = slot();
        same("strip(" + s + ")", real.strip(s), plain.strip(s));
    }

    private void climb() {
        int sheet = sheet();
        int bits = new int[] {8, 16, 32, 0, 7}[draw(20) == 0 ? 3 + draw(2) : draw(3)];
        int n = rarely() ? wild() : draw(10) == 0 ? draw(21) : draw(9);
        same("sheet(" + sheet + ", " + bits + ", " + n + ")", real.sheet(sheet, bits, n), plain.sheet(sheet, bits, n));
        for (int i = 0; i < n && i < 20; i++) {
            put(sheet, i);
        }
        int s = slot();
        same("ladder(" + s + ", " + sheet + ")", real.ladder(s, sheet), plain.ladder(s, sheet));
    }

    private void put(int sheet, int i) {
        int v = draw(12) == 0 ? random.nextInt() : draw(30) == 0 ? 99998 + draw(4) : draw(21) - 10;
        same("put(" + sheet + ", " + i + ", " + v + ")", real.put(sheet, i, v), plain.put(sheet, i, v));
    }

    private void act() {
        switch (deep && draw(8) != 0 ? 16 + draw(5) : draw(16)) {
            case 16: readGame(); break;
            case 17: if (draw(3) == 0) { readStrip(); } break;
            case 18: games(); break;
            case 19: case 20: atLeast(); break;
            case 0: readGame(); break;
            case 1: if (draw(2) == 0) { readStrip(); } else if (draw(3) == 0) { climb(); } break;
            case 2: if (draw(2) == 0) { readGame(); } else { readStrip(); } break;
            case 3: games(); break;
            case 4: case 5: look(); break;
            case 6: case 7: case 8: atLeast(); break;
            case 9: case 10: sums(); break;
            case 11: case 12: case 13: match(); break;
            case 14: rows(); break;
            default: rest();
        }
    }

    private void games() {
        int a = fullSlot();
        int b = fullSlot();
        int c = poorSlot();
        switch (draw(6)) {
            case 0: {
                int n = rarely() ? wild() : draw(draw(4) == 0 ? 21 : 5);
                same("waits(" + c + ", " + n + ")", real.waits(c, n), plain.waits(c, n));
                break;
            }
            case 1: case 2: case 3:
                same("join(" + a + ", " + b + ", " + c + ")", real.join(a, b, c), plain.join(a, b, c));
                break;
            case 4:
                same("negate(" + a + ", " + c + ")", real.negate(a, c), plain.negate(a, c));
                break;
            default: {
                int s = side();
                int i = choice(a, s);
                same("option(" + a + ", " + s + ", " + i + ", " + c + ")", real.option(a, s, i, c), plain.option(a, s, i, c));
            }
        }
    }

    private void look() {
        int a = fullSlot();
        int what = rarely() ? wild() : draw(13);
        same("gameOf(" + a + ", " + what + ")", real.gameOf(a, what), plain.gameOf(a, what));
        int b = slot();
        same("order(" + a + ", " + b + ")", real.order(a, b), plain.order(a, b));
    }

    private void atLeast() {
        int a = fullSlot();
        int b = fullSlot();
        switch (draw(4)) {
            case 0:
                same("compare(" + a + ", " + b + ")", real.compare(a, b), plain.compare(a, b));
                break;
            case 1: case 2:
                for (int k = 0; k < 10 && (a < 0 || a > 7 || b < 0 || b > 7 || !plain.surelyAtLeast(a, b)); k++) {
                    a = draw(5) == 0 ? slot() : fullSlot();
                    b = draw(5) == 0 ? slot() : fullSlot();
                }
                answers(a, b);
                break;
            default: {
                int c = poorSlot();
                same("reduce(" + a + ", " + c + ")", real.reduce(a, c), plain.reduce(a, c));
                for (int what = 0; what < 4; what++) {
                    same("gameOf(" + c + ", " + what + ")", real.gameOf(c, what), plain.gameOf(c, what));
                }
                same("compare(" + a + ", " + c + ")", real.compare(a, c), plain.compare(a, c));
                answers(a, c);
            }
        }
    }

    private void answers(int a, int b) {
        int s = side();
        for (int k = 0; k < 2; k++) {
            int i = choice(s == 0 ? b : a, s);
            same("answer(" + a + ", " + b + ", " + s + ", " + i + ")", real.answer(a, b, s, i), plain.answer(a, b, s, i));
        }
    }

    private void sums() {
        int set = set();
        if (plain.states(set) > 4000) {
            return;
        }
        int s = side();
        same("score(" + set + ", " + s + ")", real.score(set, s), plain.score(set, s));
        same("best(" + set + ", " + s + ")", real.best(set, s), plain.best(set, s));
    }

    private void match() {
        switch (draw(draw(5) == 0 ? 9 : 8)) {
            case 0: case 8: {
                int set = set();
                int s = side();
                heavyMatch = plain.states(set) > 4000;
                same("begin(" + set + ", " + s + ")", real.begin(set, s), plain.begin(set, s));
                break;
            }
            case 1: case 2: {
                List<int[]> moves = plain.matchMoves();
                boolean some = !moves.isEmpty() && draw(6) != 0;
                int[] move = some ? moves.get(draw(moves.size())) : new int[] {slot(), draw(3)};
                int s = move[0];
                int i = rarely() ? wild() : move[1];
                same("go(" + s + ", " + i + ")", real.go(s, i), plain.go(s, i));
                break;
            }
            case 3: {
                int n = rarely() ? wild() : 1 + draw(draw(5) == 0 ? 20 : 3);
                if (!heavyMatch) {
                    same("play(" + n + ")", real.play(n), plain.play(n));
                }
                break;
            }
            case 4: {
                int n = rarely() ? wild() : 1 + draw(draw(5) == 0 ? 20 : 3);
                same("loose(" + n + ")", real.loose(n), plain.loose(n));
                break;
            }
            case 5:
                same("back()", real.back(), plain.back());
                break;
            case 6: {
                int what = rarely() ? wild() : draw(6);
                if (what != 4 && what != 3 || !heavyMatch) {
                    same("matchOf(" + what + ")", real.matchOf(what), plain.matchOf(what));
                }
                int i = rarely() ? wild() : draw(6);
                same("moved(" + i + ")", real.moved(i), plain.moved(i));
                break;
            }
            default: {
                int of = slot();
                int into = poorSlot();
                same("board(" + of + ", " + into + ")", real.board(of, into), plain.board(of, into));
            }
        }
    }

    private void rows() {
        int a = sheet();
        int i = rarely() ? wild() : draw(6);
        switch (draw(4)) {
            case 0:
                put(a, i);
                break;
            case 1:
                same("number(" + a + ", " + i + ")", real.number(a, i), plain.number(a, i));
                break;
            case 2: {
                int b = sheet();
                int j = rarely() ? wild() : draw(6);
                int n = rarely() ? wild() : draw(5);
                same("shift(" + a + ", " + i + ", " + b + ", " + j + ", " + n + ")",
                        real.shift(a, i, b, j, n), plain.shift(a, i, b, j, n));
                break;
            }
            default:
                judged(a);
        }
    }

    private void judged(int sheet) {
        int s = side();
        for (int k = 0; k < 3; k++) {
            int place = real.judge(sheet, s);
            same("judge(" + sheet + ", " + s + ")", place, plain.judge(sheet, s));
            if (place < 0 || place > 7) {
                return;
            }
            int v = plain.gameOf(place, 6 + s);
            same("put(" + sheet + ", " + place + ", " + v + ")", real.put(sheet, place, v), plain.put(sheet, place, v));
        }
    }

    private void rest() {
        switch (draw(5)) {
            case 0: {
                int v = random.nextInt();
                same("seed(" + v + ")", real.seed(v), plain.seed(v));
                break;
            }
            case 1:
                same("image()", real.image(), plain.image());
                break;
            case 2:
                if (draw(3) == 0) {
                    same("restore()", real.restore(), plain.restore());
                }
                break;
            case 3: {
                int what = rarely() ? wild() : draw(5);
                same("count(" + what + ")", real.count(what), plain.count(what));
                break;
            }
            default: {
                int k = rarely() ? wild() : 1 + draw(6);
                same("told(" + k + ")", real.told(k), plain.told(k));
            }
        }
    }
}
