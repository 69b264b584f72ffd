import java.util.ArrayList;
import java.util.Collections;
import java.util.HashMap;
import java.util.HashSet;
import java.util.LinkedHashMap;
import java.util.List;
import java.util.Map;
import java.util.Set;

/**
 * The document's words, one by one, with no thought of speed or room: what DifferenceTest holds
 * the program against. Games are trees of shared objects, and SUMS are really made.
 */
final class PlainPoints {
    static final int LOW = -1000000000;
    static final int BEYOND = 1, NONE = 2, STATE = 3, FULL = 4, KIND = 5, BIG = 6;

    /** A game; a side is SHUT if its list is null. */
    static final class G {
        final int id;
        final List<G> left, right;
        final int leftNumber, rightNumber;
        final int depth;
        Integer leftScore, rightScore, floor, ceiling, leftPrice, rightPrice, size;
        Boolean sure;
        G negative, reduced;

        G(int id, List<G> left, List<G> right, int leftNumber, int rightNumber) {
            this.id = id;
            this.left = left;
            this.right = right;
            this.leftNumber = leftNumber;
            this.rightNumber = rightNumber;
            int most = -1;
            for (List<G> side : sides(left, right)) {
                for (G g : side) {
                    most = Math.max(most, g.depth);
                }
            }
            depth = most + 1;
        }

        static List<List<G>> sides(List<G> left, List<G> right) {
            List<List<G>> all = new ArrayList<>();
            if (left != null) {
                all.add(left);
            }
            if (right != null) {
                all.add(right);
            }
            return all;
        }

        List<G> side(int s) {
            return s == 0 ? left : right;
        }

        int shut(int s) {
            return s == 0 ? leftNumber : rightNumber;
        }
    }

    static final class TooMuch extends RuntimeException {
        private static final long serialVersionUID = 1L;
        final int error;

        TooMuch(int error) {
            this.error = error;
        }
    }

    private final Map<String, G> all = new HashMap<>();
    private final Map<Long, G> sums = new HashMap<>();
    private final Map<Long, Boolean> atLeast = new HashMap<>();
    private final Map<List<Integer>, Integer> scores = new HashMap<>();

    private final int[] told = new int[7];
    private final List<Integer> tape = new ArrayList<>();
    private G[] slots = new G[8];
    private G[] imageSlots;
    private int imageDraw, images;
    private int z = 1;
    private final int[][] sheets = new int[4][];
    private final int[] sheetBits = new int[4];
    private Map<Integer, G> boards;
    private int turn, set;
    private final List<int[]> moves = new ArrayList<>();
    private final List<G> before = new ArrayList<>();

    PlainPoints() {
        for (int s = 0; s < 8; s++) {
            slots[s] = plain(0);
        }
    }

    // games as such

    G make(List<G> left, List<G> right, int leftNumber, int rightNumber) {
        List<G> l = left == null ? null : tidy(left);
        List<G> r = right == null ? null : tidy(right);
        StringBuilder key = new StringBuilder();
        write(key, l, leftNumber);
        key.append('|');
        write(key, r, rightNumber);
        String k = key.toString();
        G found = all.get(k);
        if (found == null) {
            found = new G(all.size(), l, r, leftNumber, rightNumber);
            all.put(k, found);
        }
        return found;
    }

    private static void write(StringBuilder key, List<G> side, int number) {
        if (side == null) {
            key.append('#').append(number);
            return;
        }
        for (G g : side) {
            key.append(g.id).append(',');
        }
    }

    private List<G> tidy(List<G> side) {
        List<G> once = new ArrayList<>();
        for (G g : side) {
            if (!once.contains(g)) {
                once.add(g);
            }
        }
        Collections.sort(once, this::way);
        return once;
    }

    G plain(int n) {
        return make(null, null, n, n);
    }

    int way(G g, G h) {
        if (g == h) {
            return 0;
        }
        if (g.depth != h.depth) {
            return g.depth < h.depth ? -1 : 1;
        }
        int way = sideWay(g.left, g.leftNumber, h.left, h.leftNumber);
        return way != 0 ? way : sideWay(g.right, g.rightNumber, h.right, h.rightNumber);
    }

    private int sideWay(List<G> a, int an, List<G> b, int bn) {
        if (a == null || b == null) {
            if (a == null && b == null) {
                return Integer.compare(an, bn);
            }
            return a == null ? -1 : 1;
        }
        if (a.size() != b.size()) {
            return a.size() < b.size() ? -1 : 1;
        }
        for (int k = 0; k < a.size(); k++) {
            int way = way(a.get(k), b.get(k));
            if (way != 0) {
                return way;
            }
        }
        return 0;
    }

    Set<G> followers(G g) {
        Set<G> found = new HashSet<>();
        List<G> todo = new ArrayList<>();
        todo.add(g);
        found.add(g);
        while (!todo.isEmpty()) {
            G next = todo.remove(todo.size() - 1);
            for (List<G> side : G.sides(next.left, next.right)) {
                for (G x : side) {
                    if (found.add(x)) {
                        todo.add(x);
                    }
                }
            }
        }
        return found;
    }

    int size(G g) {
        if (g.size == null) {
            g.size = followers(g).size();
        }
        return g.size;
    }

    G sum(G g, G h) {
        long key = (long) g.id << 32 | h.id;
        G known = sums.get(key);
        if (known != null) {
            return known;
        }
        G made = make(sumSide(g, h, 0), sumSide(g, h, 1),
                g.left == null && h.left == null ? g.leftNumber + h.leftNumber : 0,
                g.right == null && h.right == null ? g.rightNumber + h.rightNumber : 0);
        sums.put(key, made);
        return made;
    }

    private List<G> sumSide(G g, G h, int side) {
        if (g.side(side) == null && h.side(side) == null) {
            return null;
        }
        List<G> made = new ArrayList<>();
        if (g.side(side) != null) {
            for (G x : g.side(side)) {
                made.add(sum(x, h));
            }
        }
        if (h.side(side) != null) {
            for (G x : h.side(side)) {
                made.add(sum(g, x));
            }
        }
        return made;
    }

    G negative(G g) {
        if (g.negative == null) {
            g.negative = make(negatives(g.right), negatives(g.left), g.right == null ? -g.rightNumber : 0,
                    g.left == null ? -g.leftNumber : 0);
        }
        return g.negative;
    }

    private List<G> negatives(List<G> side) {
        if (side == null) {
            return null;
        }
        List<G> made = new ArrayList<>();
        for (G x : side) {
            made.add(negative(x));
        }
        return made;
    }

    G waitsGame(int n) {
        return n == 0 ? plain(0) : make(List.of(waitsGame(n - 1)), null, 0, 0);
    }

    int leftScore(G g) {
        if (g.leftScore == null) {
            if (g.left == null) {
                g.leftScore = g.leftNumber;
            } else {
                int most = Integer.MIN_VALUE;
                for (G x : g.left) {
                    most = Math.max(most, rightScore(x));
                }
                g.leftScore = most;
            }
        }
        return g.leftScore;
    }

    int rightScore(G g) {
        if (g.rightScore == null) {
            if (g.right == null) {
                g.rightScore = g.rightNumber;
            } else {
                int least = Integer.MAX_VALUE;
                for (G x : g.right) {
                    least = Math.min(least, leftScore(x));
                }
                g.rightScore = least;
            }
        }
        return g.rightScore;
    }

    int floor(G g) {
        if (g.floor == null) {
            int least = Integer.MAX_VALUE;
            for (int n = 0; n <= g.depth + 1; n++) {
                least = Math.min(least, leftScore(sum(g, negative(waitsGame(n)))));
            }
            g.floor = least;
            for (int n = g.depth + 1; n >= 0; n--) {
                if (leftScore(sum(g, negative(waitsGame(n)))) == least) {
                    g.rightPrice = n;
                }
            }
        }
        return g.floor;
    }

    int ceiling(G g) {
        if (g.ceiling == null) {
            int most = Integer.MIN_VALUE;
            for (int n = 0; n <= g.depth + 1; n++) {
                most = Math.max(most, rightScore(sum(g, waitsGame(n))));
            }
            g.ceiling = most;
            for (int n = g.depth + 1; n >= 0; n--) {
                if (rightScore(sum(g, waitsGame(n))) == most) {
                    g.leftPrice = n;
                }
            }
        }
        return g.ceiling;
    }

    boolean sure(G g) {
        if (g.sure == null) {
            boolean fine = true;
            for (G f : followers(g)) {
                for (G x : followers(f)) {
                    for (int s = 0; s < 2; s++) {
                        if (x.side(s) == null) {
                            fine &= f.left != null || x.shut(s) >= f.leftNumber;
                            fine &= f.right != null || x.shut(s) <= f.rightNumber;
                        }
                    }
                }
            }
            g.sure = fine;
        }
        return g.sure;
    }

    boolean atLeast(G g, G h) {
        long key = (long) g.id << 32 | h.id;
        Boolean known = atLeast.get(key);
        if (known == null) {
            known = floor(g) >= floor(h) && ceiling(g) >= ceiling(h) && lefts(g, h) && rights(g, h);
            atLeast.put(key, known);
        }
        return known;
    }

    private boolean lefts(G g, G h) {
        if (h.left == null) {
            return true;
        }
        for (G x : h.left) {
            if (leftAnswer(g, x) < 0) {
                return false;
            }
        }
        return true;
    }

    private boolean rights(G g, G h) {
        if (g.right == null) {
            return true;
        }
        for (G x : g.right) {
            if (rightAnswer(x, h) < 0) {
                return false;
            }
        }
        return true;
    }

    /** To x, an option of Left's in a game than which g is to be at least. */
    int leftAnswer(G g, G x) {
        if (g.left != null) {
            for (int k = 0; k < g.left.size(); k++) {
                if (atLeast(g.left.get(k), x)) {
                    return k;
                }
            }
        }
        if (x.right != null) {
            for (int k = 0; k < x.right.size(); k++) {
                if (atLeast(g, x.right.get(k))) {
                    return 100 + k;
                }
            }
        }
        return -1;
    }

    int rightAnswer(G x, G h) {
        if (h.right != null) {
            for (int k = 0; k < h.right.size(); k++) {
                if (atLeast(x, h.right.get(k))) {
                    return k;
                }
            }
        }
        if (x.left != null) {
            for (int k = 0; k < x.left.size(); k++) {
                if (atLeast(x.left.get(k), h)) {
                    return 100 + k;
                }
            }
        }
        return -1;
    }

    G reduced(G g) {
        if (g.reduced == null) {
            G now = make(reducedOnes(g.left), reducedOnes(g.right), g.leftNumber, g.rightNumber);
            G next = step(now);
            while (next != null) {
                now = next;
                next = step(now);
            }
            g.reduced = now;
        }
        return g.reduced;
    }

    private List<G> reducedOnes(List<G> side) {
        if (side == null) {
            return null;
        }
        List<G> made = new ArrayList<>();
        for (G x : side) {
            made.add(reduced(x));
        }
        return made;
    }

    private G step(G g) {
        G next = turnLeft(g);
        if (next == null) {
            next = turnRight(g);
        }
        if (next == null) {
            next = thinLeft(g);
        }
        return next != null ? next : thinRight(g);
    }

    private G turnLeft(G g) {
        if (g.left != null) {
            for (G x : g.left) {
                if (x.right != null) {
                    for (G y : x.right) {
                        if (y.left != null && atLeast(g, y)) {
                            return make(replaced(g.left, x, y.left), g.right, g.leftNumber, g.rightNumber);
                        }
                    }
                }
            }
        }
        return null;
    }

    private G turnRight(G g) {
        if (g.right != null) {
            for (G x : g.right) {
                if (x.left != null) {
                    for (G y : x.left) {
                        if (y.right != null && atLeast(y, g)) {
                            return make(g.left, replaced(g.right, x, y.right), g.leftNumber, g.rightNumber);
                        }
                    }
                }
            }
        }
        return null;
    }

    private G thinLeft(G g) {
        if (g.left != null) {
            for (int k = 0; k < g.left.size(); k++) {
                for (int j = 0; j < g.left.size(); j++) {
                    G x = g.left.get(k);
                    G other = g.left.get(j);
                    if (j != k && atLeast(other, x) && (!atLeast(x, other) || j < k)) {
                        return make(replaced(g.left, x, List.of()), g.right, g.leftNumber, g.rightNumber);
                    }
                }
            }
        }
        return null;
    }

    private G thinRight(G g) {
        if (g.right != null) {
            for (int k = 0; k < g.right.size(); k++) {
                for (int j = 0; j < g.right.size(); j++) {
                    G x = g.right.get(k);
                    G other = g.right.get(j);
                    if (j != k && atLeast(x, other) && (!atLeast(other, x) || j < k)) {
                        return make(g.left, replaced(g.right, x, List.of()), g.leftNumber, g.rightNumber);
                    }
                }
            }
        }
        return null;
    }

    private static List<G> replaced(List<G> side, G x, List<G> by) {
        List<G> made = new ArrayList<>(side);
        made.remove(x);
        made.addAll(by);
        return made;
    }

    G fit(G g) {
        if (size(g) > 60) {
            throw new TooMuch(FULL);
        }
        for (G f : followers(g)) {
            for (int s = 0; s < 2; s++) {
                if (f.side(s) == null && (f.shut(s) > 99999 || f.shut(s) < -99999)) {
                    throw new TooMuch(BIG);
                }
            }
        }
        return g;
    }

    /** How many states a SUM OF SLOTS has at most: a test keeps away from what takes too long here. */
    long states(int chosen) {
        long all = 1;
        for (int s = 0; s < 8; s++) {
            all *= (chosen & 1 << s) != 0 ? size(slots[s]) : 1;
        }
        return all;
    }

    /** What a test needs so that its draws are not all in vain; nothing is counted here. */
    boolean surelyAtLeast(int one, int other) {
        return sure(slots[one]) && sure(slots[other]) && atLeast(slots[one], slots[other]);
    }

    int choices(int slot, int side) {
        return slots[slot].side(side) == null ? 0 : slots[slot].side(side).size();
    }

    List<int[]> matchMoves() {
        return boards == null ? new ArrayList<>() : allMoves();
    }

    int depth(int slot) {
        return slots[slot].depth;
    }

    // acts

    private int refuse(int k) {
        told[k]++;
        return LOW - k;
    }

    private int hold(int slot, G g) {
        slots[slot] = g;
        return size(g);
    }

    private static boolean slot(int s) {
        return s >= 0 && s <= 7;
    }

    private static boolean side(int s) {
        return s == 0 || s == 1;
    }

    int feed(long word, int n) {
        if (n < 1 || n > 8) {
            return refuse(BEYOND);
        }
        if (tape.size() + n > 100) {
            return refuse(FULL);
        }
        for (int k = 0; k < n; k++) {
            tape.add((int) (word >> 8 * k & 255));
        }
        return tape.size();
    }

    private String tapeText() {
        StringBuilder made = new StringBuilder();
        for (int b : tape) {
            made.append((char) b);
        }
        return made.toString();
    }

    int game(int slot) {
        if (!slot(slot)) {
            return refuse(BEYOND);
        }
        String text = tapeText();
        tape.clear();
        int fault = PlainText.fault(text);
        if (fault >= 0) {
            return -10 - fault;
        }
        try {
            return hold(slot, new PlainText(this, text).sum());
        } catch (TooMuch much) {
            return refuse(much.error);
        }
    }

    int strip(int slot) {
        if (!slot(slot)) {
            return refuse(BEYOND);
        }
        String text = tapeText();
        tape.clear();
        int k = 0;
        while (k < text.length() && k < 8 && "lr0123456789".indexOf(text.charAt(k)) >= 0) {
            k++;
        }
        if (k < text.length() || k == 0) {
            return -10 - k;
        }
        G made = stripGame(text, 0, new LinkedHashMap<>());
        return size(made) > 60 ? refuse(FULL) : hold(slot, made);
    }

    private G stripGame(String cells, int p, Map<String, G> known) {
        String key = cells + "/" + p;
        if (known.containsKey(key)) {
            return known.get(key);
        }
        int lying = 0;
        List<G> left = new ArrayList<>();
        List<G> right = new ArrayList<>();
        for (int c = 0; c < cells.length(); c++) {
            char sign = cells.charAt(c);
            if (sign == 'l' && c + 1 < cells.length() && Character.isDigit(cells.charAt(c + 1))) {
                int there = cells.charAt(c + 1) - '0';
                left.add(stripGame(cells.substring(0, c) + "0l" + cells.substring(c + 2), p + there, known));
            } else if (sign == 'r' && c > 0 && Character.isDigit(cells.charAt(c - 1))) {
                int there = cells.charAt(c - 1) - '0';
                right.add(stripGame(cells.substring(0, c - 1) + "r0" + cells.substring(c + 1), p - there, known));
            }
            lying += Character.isDigit(sign) ? sign - '0' : 0;
        }
        G made = make(left.isEmpty() ? null : left, right.isEmpty() ? null : right,
                left.isEmpty() ? p - lying : 0, right.isEmpty() ? p + lying : 0);
        known.put(key, made);
        return made;
    }

    int ladder(int slot, int sheet) {
        if (!slot(slot) || sheet < 0 || sheet > 3) {
            return refuse(BEYOND);
        }
        if (sheets[sheet] == null || sheets[sheet].length == 0) {
            return refuse(NONE);
        }
        int[] row = sheets[sheet];
        G made = plain(row[row.length - 1]);
        for (int i = row.length - 2; i >= 0; i--) {
            made = make(List.of(plain(row[i])), List.of(made), 0, 0);
        }
        try {
            return hold(slot, fit(made));
        } catch (TooMuch much) {
            return refuse(much.error);
        }
    }

    int waits(int slot, int n) {
        return !slot(slot) || n < 0 || n > 20 ? refuse(BEYOND) : hold(slot, waitsGame(n));
    }

    int join(int one, int other, int into) {
        if (!slot(one) || !slot(other) || !slot(into)) {
            return refuse(BEYOND);
        }
        try {
            return hold(into, fit(sum(slots[one], slots[other])));
        } catch (TooMuch much) {
            return refuse(much.error);
        }
    }

    int negate(int slot, int into) {
        return !slot(slot) || !slot(into) ? refuse(BEYOND) : hold(into, negative(slots[slot]));
    }

    int option(int slot, int side, int i, int into) {
        if (!slot(slot) || !side(side) || !slot(into)) {
            return refuse(BEYOND);
        }
        List<G> options = slots[slot].side(side);
        return options == null || i < 0 || i >= options.size() ? refuse(NONE) : hold(into, options.get(i));
    }

    int gameOf(int slot, int what) {
        if (!slot(slot) || what < 0 || what > 12) {
            return refuse(BEYOND);
        }
        G g = slots[slot];
        floor(g);
        ceiling(g);
        switch (what) {
            case 0: return size(g);
            case 1: return g.depth;
            case 2: return g.left == null ? 0 : g.left.size();
            case 3: return g.right == null ? 0 : g.right.size();
            case 4: return g.left == null ? g.leftNumber : refuse(NONE);
            case 5: return g.right == null ? g.rightNumber : refuse(NONE);
            case 6: return leftScore(g);
            case 7: return rightScore(g);
            case 8: return g.floor;
            case 9: return g.ceiling;
            case 10: return g.leftPrice;
            case 11: return g.rightPrice;
            default: return sure(g) ? 1 : 0;
        }
    }

    int order(int one, int other) {
        return !slot(one) || !slot(other) ? refuse(BEYOND) : way(slots[one], slots[other]);
    }

    int compare(int one, int other) {
        if (!slot(one) || !slot(other)) {
            return refuse(BEYOND);
        }
        if (!sure(slots[one]) || !sure(slots[other])) {
            return refuse(STATE);
        }
        return (atLeast(slots[one], slots[other]) ? 1 : 0) + (atLeast(slots[other], slots[one]) ? 2 : 0);
    }

    int answer(int one, int other, int side, int i) {
        if (!slot(one) || !slot(other) || !side(side)) {
            return refuse(BEYOND);
        }
        if (!sure(slots[one]) || !sure(slots[other])) {
            return refuse(STATE);
        }
        if (!atLeast(slots[one], slots[other])) {
            return refuse(KIND);
        }
        List<G> asked = side == 0 ? slots[other].left : slots[one].right;
        if (asked == null || i < 0 || i >= asked.size()) {
            return refuse(NONE);
        }
        return side == 0 ? leftAnswer(slots[one], asked.get(i)) : rightAnswer(asked.get(i), slots[other]);
    }

    int reduce(int slot, int into) {
        if (!slot(slot) || !slot(into)) {
            return refuse(BEYOND);
        }
        return sure(slots[slot]) ? hold(into, reduced(slots[slot])) : refuse(STATE);
    }

    private static boolean set(int set) {
        return set > 0 && set < 256 && Integer.bitCount(set) <= 3;
    }

    private Map<Integer, G> laid(int set) {
        Map<Integer, G> laid = new LinkedHashMap<>();
        for (int s = 0; s < 8; s++) {
            if ((set & 1 << s) != 0) {
                laid.put(s, slots[s]);
            }
        }
        return laid;
    }

    private int worth(Map<Integer, G> laid, int side) {
        List<Integer> key = new ArrayList<>();
        key.add(side);
        for (G g : laid.values()) {
            key.add(g.id);
        }
        Integer known = scores.get(key);
        if (known == null) {
            int[] best = bestOf(laid, side);
            if (best == null) {
                known = 0;
                for (G g : laid.values()) {
                    known += g.shut(side);
                }
            } else {
                known = best[2];
            }
            scores.put(key, known);
        }
        return known;
    }

    private int[] bestOf(Map<Integer, G> laid, int side) {
        int[] best = null;
        for (int s : laid.keySet()) {
            List<G> options = laid.get(s).side(side);
            for (int k = 0; options != null && k < options.size(); k++) {
                Map<Integer, G> then = new LinkedHashMap<>(laid);
                then.put(s, options.get(k));
                int value = worth(then, 1 - side);
                if (best == null || (side == 0 ? value > best[2] : value < best[2])) {
                    best = new int[] {s, k, value};
                }
            }
        }
        return best;
    }

    int score(int set, int side) {
        return !set(set) || !side(side) ? refuse(BEYOND) : worth(laid(set), side);
    }

    int best(int set, int side) {
        if (!set(set) || !side(side)) {
            return refuse(BEYOND);
        }
        int[] best = bestOf(laid(set), side);
        return best == null ? refuse(NONE) : 100 * best[0] + best[1];
    }

    private boolean over() {
        return allMoves().isEmpty();
    }

    private List<int[]> allMoves() {
        List<int[]> found = new ArrayList<>();
        for (int s : boards.keySet()) {
            List<G> options = boards.get(s).side(turn);
            for (int k = 0; options != null && k < options.size(); k++) {
                found.add(new int[] {s, k});
            }
        }
        return found;
    }

    private void make(int s, int k) {
        before.add(boards.get(s));
        moves.add(new int[] {s, k});
        boards.put(s, boards.get(s).side(turn).get(k));
        turn = 1 - turn;
    }

    int begin(int set, int side) {
        if (!set(set) || !side(side)) {
            return refuse(BEYOND);
        }
        boards = laid(set);
        this.set = set;
        turn = side;
        moves.clear();
        before.clear();
        return over() ? 1 : 0;
    }

    int go(int slot, int i) {
        if (boards == null) {
            return refuse(NONE);
        }
        if (over()) {
            return refuse(STATE);
        }
        for (int[] move : allMoves()) {
            if (move[0] == slot && move[1] == i) {
                make(slot, i);
                return over() ? 1 : 0;
            }
        }
        return refuse(BEYOND);
    }

    int play(int n) {
        if (n < 1 || n > 20) {
            return refuse(BEYOND);
        }
        if (boards == null) {
            return refuse(NONE);
        }
        int made = 0;
        while (made < n && !over()) {
            int[] best = bestOf(boards, turn);
            make(best[0], best[1]);
            made++;
        }
        return made;
    }

    int loose(int n) {
        if (n < 1 || n > 20) {
            return refuse(BEYOND);
        }
        if (boards == null) {
            return refuse(NONE);
        }
        int made = 0;
        while (made < n && !over()) {
            z = z * 1103515245 + 12345;
            List<int[]> found = allMoves();
            int[] move = found.get((z >>> 8) % found.size());
            make(move[0], move[1]);
            made++;
        }
        return made;
    }

    int back() {
        if (boards == null || moves.isEmpty()) {
            return refuse(NONE);
        }
        int[] move = moves.remove(moves.size() - 1);
        boards.put(move[0], before.remove(before.size() - 1));
        turn = 1 - turn;
        return moves.size();
    }

    int matchOf(int what) {
        if (what < 0 || what > 5) {
            return refuse(BEYOND);
        }
        if (boards == null) {
            return refuse(NONE);
        }
        switch (what) {
            case 0: return turn;
            case 1: return moves.size();
            case 2: return over() ? 1 : 0;
            case 3: return over() ? worth(boards, turn) : refuse(STATE);
            case 4: return worth(boards, turn);
            default: return set;
        }
    }

    int moved(int i) {
        if (boards == null || i < 0 || i >= moves.size()) {
            return refuse(NONE);
        }
        return 100 * moves.get(i)[0] + moves.get(i)[1];
    }

    int board(int of, int into) {
        if (!slot(of) || !slot(into)) {
            return refuse(BEYOND);
        }
        return boards == null || !boards.containsKey(of) ? refuse(NONE) : hold(into, boards.get(of));
    }

    int sheet(int sheet, int bits, int n) {
        if (sheet < 0 || sheet > 3 || (bits != 0 && bits != 8 && bits != 16 && bits != 32)) {
            return refuse(BEYOND);
        }
        if (bits == 0) {
            sheets[sheet] = null;
            return 1;
        }
        if (n < 0) {
            return refuse(STATE);
        }
        if (n > 20) {
            return refuse(BEYOND);
        }
        sheets[sheet] = new int[n];
        sheetBits[sheet] = bits;
        return 1;
    }

    int put(int sheet, int i, int v) {
        if (sheet < 0 || sheet > 3) {
            return refuse(BEYOND);
        }
        if (sheets[sheet] == null) {
            return refuse(NONE);
        }
        if (i < 0 || i >= sheets[sheet].length) {
            return refuse(BEYOND);
        }
        int free = 32 - sheetBits[sheet];
        sheets[sheet][i] = v << free >> free;
        return 1;
    }

    int number(int sheet, int i) {
        if (sheet < 0 || sheet > 3) {
            return refuse(BEYOND);
        }
        if (sheets[sheet] == null) {
            return refuse(NONE);
        }
        return i < 0 || i >= sheets[sheet].length ? refuse(BEYOND) : sheets[sheet][i];
    }

    int shift(int sheet, int i, int other, int j, int n) {
        if (sheet < 0 || sheet > 3 || other < 0 || other > 3) {
            return refuse(BEYOND);
        }
        if (sheets[sheet] == null || sheets[other] == null) {
            return refuse(NONE);
        }
        if (sheetBits[sheet] != sheetBits[other]) {
            return refuse(KIND);
        }
        if (n < 0 || i < 0 || j < 0 || (long) i + n > sheets[sheet].length || (long) j + n > sheets[other].length) {
            return refuse(BEYOND);
        }
        int[] were = sheets[sheet].clone();
        for (int k = 0; k < n; k++) {
            sheets[other][j + k] = were[i + k];
        }
        return n;
    }

    int judge(int sheet, int side) {
        if (sheet < 0 || sheet > 3 || !side(side)) {
            return refuse(BEYOND);
        }
        if (sheets[sheet] == null) {
            return refuse(NONE);
        }
        for (int i = 0; i < sheets[sheet].length; i++) {
            if (i > 7 || sheets[sheet][i] != (side == 0 ? leftScore(slots[i]) : rightScore(slots[i]))) {
                return i;
            }
        }
        return -1;
    }

    int seed(int v) {
        int was = z;
        z = v;
        return was;
    }

    int image() {
        imageSlots = slots.clone();
        imageDraw = z;
        images++;
        return images;
    }

    int restore() {
        if (imageSlots == null) {
            return refuse(NONE);
        }
        slots = imageSlots.clone();
        z = imageDraw;
        return count(0);
    }

    int count(int what) {
        int n = 0;
        switch (what) {
            case 0:
                for (G g : slots) {
                    n += size(g);
                }
                return n;
            case 1:
                for (G g : slots) {
                    n += sure(g) ? 1 : 0;
                }
                return n;
            case 2: return tape.size();
            case 3: return moves.size();
            case 4: return z;
            default: return refuse(BEYOND);
        }
    }

    int told(int k) {
        return k < 1 || k > 6 ? refuse(BEYOND) : told[k];
    }
}
