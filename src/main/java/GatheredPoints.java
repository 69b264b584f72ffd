/**
 * Games whose two players gather points. What each call answers is told by the numbered promises
 * of the document; every game is kept as the table of its followers, in ORDER, and is never
 * changed once it has been made, so that slots, images and matches can share it.
 */
public final class GatheredPoints {
    private static final int LOW = -1000000000;
    private static final int BEYOND = 1;
    private static final int NONE = 2;
    private static final int STATE = 3;
    private static final int FULL = 4;
    private static final int KIND = 5;
    private static final int BIG = 6;

    private static final int SLOTS = 8;
    private static final int TAPE = 100;
    private static final int STRIP = 8;
    private static final int OPEN = 8;
    private static final int MOST = 60;
    /** One place more than a game may fill, for the game that is being made. */
    private static final int ROOM = 61;
    private static final int GREATEST = 99999;
    private static final int BOARDS = 3;
    private static final int STATES = MOST * MOST * MOST;
    /** Three boards of DEPTH 59 allow 177 moves. */
    private static final int MOVES = 180;
    private static final int SHEETS = 4;
    private static final int ROW = 20;
    private static final int WAITS = 20;
    /** Ahead of the number of an ANSWER among options of x, of a move's option behind its slot. */
    private static final int HUNDRED = 100;
    private static final int FAULT = -10;
    /** Beyond every score: what the greatest and the least of none are. */
    private static final int LOWEST = -2147483648;
    private static final int HIGHEST = 2147483647;

    private final int[] refusals = new int[BIG + 1];
    private final byte[] tape = new byte[TAPE];
    private int taped;
    private final Table[] slots = new Table[SLOTS];
    private final Table[] kept = new Table[SLOTS];
    private int keptDraw;
    private int images;
    private int draw;
    private final Maker maker;
    private final Measures measures;
    private final Least least;
    private final Reducer reducer;
    private final Reader reader;
    private final Walker walker;
    private final Sum sum;
    private final Match match;
    private final Sheets sheets;

    public GatheredPoints() {
        Pool pool = new Pool();
        draw = 1;
        maker = new Maker(pool);
        measures = new Measures();
        least = new Least();
        reducer = new Reducer(pool, measures);
        reader = new Reader(pool, maker);
        walker = new Walker(pool);
        sum = new Sum(maker.zero);
        match = new Match(maker.zero);
        sheets = new Sheets();
        for (int s = 0; s < SLOTS; s++) {
            slots[s] = maker.zero;
            kept[s] = maker.zero;
        }
    }

    // ---- games

    public int feed(long word, int n) {
        if (n < 1 || n > 8) {
            return refused(BEYOND);
        }
        if (taped + n > TAPE) {
            return refused(FULL);
        }
        for (int k = 0; k < n; k++) {
            tape[taped + k] = (byte) (word >>> (8 * k));
        }
        taped += n;
        return taped;
    }

    public int game(int slot) {
        if (noSlot(slot)) {
            return refused(BEYOND);
        }
        Table read = reader.read(tape, taped);
        taped = 0;
        if (reader.fault >= 0) {
            return FAULT - reader.fault;
        }
        if (reader.trouble != 0) {
            return refused(reader.trouble);
        }
        return hold(slot, read);
    }

    public int strip(int slot) {
        if (noSlot(slot)) {
            return refused(BEYOND);
        }
        int wrong = walker.firstWrong(tape, taped);
        Table walked = wrong < 0 ? walker.walk(tape, taped) : null;
        taped = 0;
        if (wrong >= 0) {
            return FAULT - wrong;
        }
        if (walked == null) {
            return refused(FULL);
        }
        return hold(slot, walked);
    }

    public int ladder(int slot, int sheet) {
        if (noSlot(slot) || sheets.beyond(sheet)) {
            return refused(BEYOND);
        }
        if (sheets.missing(sheet) || sheets.lengths[sheet] == 0) {
            return refused(NONE);
        }
        if (sheets.tooBig(sheet)) {
            return refused(BIG);
        }
        return hold(slot, maker.rungs(sheets.rows[sheet], sheets.lengths[sheet]));
    }

    public int waits(int slot, int n) {
        if (noSlot(slot) || n < 0 || n > WAITS) {
            return refused(BEYOND);
        }
        return hold(slot, maker.pauses(n));
    }

    public int join(int one, int other, int into) {
        if (noSlot(one) || noSlot(other) || noSlot(into)) {
            return refused(BEYOND);
        }
        Table joined = maker.joined(slots[one], slots[other]);
        if (joined == null) {
            return refused(FULL);
        }
        if (joined.tooBig()) {
            return refused(BIG);
        }
        return hold(into, joined);
    }

    public int negate(int slot, int into) {
        if (noSlot(slot) || noSlot(into)) {
            return refused(BEYOND);
        }
        return hold(into, maker.negated(slots[slot]));
    }

    public int option(int slot, int side, int i, int into) {
        if (noSlot(slot) || noSide(side) || noSlot(into)) {
            return refused(BEYOND);
        }
        Table whole = slots[slot];
        long options = whole.options(whole.root(), side);
        if (i < 0 || i >= Long.bitCount(options)) {
            return refused(NONE);
        }
        return hold(into, maker.part(whole, pick(options, i)));
    }

    public int gameOf(int slot, int what) {
        if (noSlot(slot) || what < 0 || what > 12) {
            return refused(BEYOND);
        }
        Table whole = slots[slot];
        int root = whole.root();
        switch (what) {
            case 0:
                return whole.size;
            case 1:
                return whole.depth[root];
            case 2:
                return Long.bitCount(whole.left[root]);
            case 3:
                return Long.bitCount(whole.right[root]);
            case 4:
                return whole.left[root] != 0 ? refused(NONE) : whole.leftNumber[root];
            case 5:
                return whole.right[root] != 0 ? refused(NONE) : whole.rightNumber[root];
            case 6:
                return measures.worth(whole, 0);
            case 7:
                return measures.worth(whole, 1);
            case 12:
                return measures.sure(whole) ? 1 : 0;
            default:
                return waited(whole, what);
        }
    }

    private int waited(Table whole, int what) {
        measures.bound(whole);
        int root = whole.root();
        switch (what) {
            case 8:
                return whole.floor[root];
            case 9:
                return whole.ceiling[root];
            case 10:
                return whole.leftPrice[root];
            default:
                return whole.rightPrice[root];
        }
    }

    public int order(int one, int other) {
        if (noSlot(one) || noSlot(other)) {
            return refused(BEYOND);
        }
        return maker.wayOf(slots[one], slots[other]);
    }

    // ---- at least

    public int compare(int one, int other) {
        if (noSlot(one) || noSlot(other)) {
            return refused(BEYOND);
        }
        if (!measures.sure(slots[one]) || !measures.sure(slots[other])) {
            return refused(STATE);
        }
        int both = atLeast(slots[one], slots[other]) ? 1 : 0;
        return atLeast(slots[other], slots[one]) ? both + 2 : both;
    }

    private boolean atLeast(Table one, Table other) {
        measures.bound(one);
        measures.bound(other);
        return least.relate(one, other);
    }

    public int answer(int one, int other, int side, int i) {
        if (noSlot(one) || noSlot(other) || noSide(side)) {
            return refused(BEYOND);
        }
        Table g = slots[one];
        Table h = slots[other];
        if (!measures.sure(g) || !measures.sure(h)) {
            return refused(STATE);
        }
        if (!atLeast(g, h)) {
            return refused(KIND);
        }
        Table asked = side == 0 ? h : g;
        long options = asked.options(asked.root(), side);
        if (i < 0 || i >= Long.bitCount(options)) {
            return refused(NONE);
        }
        int x = pick(options, i);
        return side == 0 ? least.leftAnswer(g, h, x) : least.rightAnswer(g, h, x);
    }

    public int reduce(int slot, int into) {
        if (noSlot(slot) || noSlot(into)) {
            return refused(BEYOND);
        }
        if (!measures.sure(slots[slot])) {
            return refused(STATE);
        }
        return hold(into, reducer.reduced(slots[slot]));
    }

    // ---- sums, matches

    public int score(int set, int side) {
        if (noSet(set) || noSide(side)) {
            return refused(BEYOND);
        }
        sum.lay(set, slots);
        return sum.worth(side);
    }

    public int best(int set, int side) {
        if (noSet(set) || noSide(side)) {
            return refused(BEYOND);
        }
        sum.lay(set, slots);
        int found = sum.bestMove(side);
        return found < 0 ? refused(NONE) : sum.named(found);
    }

    public int begin(int set, int side) {
        if (noSet(set) || noSide(side)) {
            return refused(BEYOND);
        }
        match.start(set, side, slots);
        return match.over() ? 1 : 0;
    }

    public int go(int slot, int i) {
        if (!match.begun) {
            return refused(NONE);
        }
        if (match.over()) {
            return refused(STATE);
        }
        int move = match.moveAt(slot, i);
        if (move < 0) {
            return refused(BEYOND);
        }
        match.make(move);
        return match.over() ? 1 : 0;
    }

    public int play(int n) {
        if (n < 1 || n > 20) {
            return refused(BEYOND);
        }
        if (!match.begun) {
            return refused(NONE);
        }
        int made = 0;
        while (made < n && !match.over()) {
            match.make(match.boards.bestMove(match.turn));
            made++;
        }
        return made;
    }

    public int loose(int n) {
        if (n < 1 || n > 20) {
            return refused(BEYOND);
        }
        if (!match.begun) {
            return refused(NONE);
        }
        int made = 0;
        while (made < n && !match.over()) {
            draw = draw * 1103515245 + 12345;
            match.make(match.boards.drawn(match.turn, draw >>> 8));
            made++;
        }
        return made;
    }

    public int back() {
        if (!match.begun || match.made == 0) {
            return refused(NONE);
        }
        match.unmake();
        return match.made;
    }

    public int matchOf(int what) {
        if (what < 0 || what > 5) {
            return refused(BEYOND);
        }
        if (!match.begun) {
            return refused(NONE);
        }
        switch (what) {
            case 0:
                return match.turn;
            case 1:
                return match.made;
            case 2:
                return match.over() ? 1 : 0;
            case 3:
                return match.over() ? match.boards.points(match.turn) : refused(STATE);
            case 4:
                return match.boards.worth(match.turn);
            default:
                return match.boards.set;
        }
    }

    public int moved(int i) {
        if (!match.begun || i < 0 || i >= match.made) {
            return refused(NONE);
        }
        return match.boards.named(match.moves[i]);
    }

    public int board(int of, int into) {
        if (noSlot(of) || noSlot(into)) {
            return refused(BEYOND);
        }
        int place = match.begun ? match.boards.placeOf(of) : -1;
        if (place < 0) {
            return refused(NONE);
        }
        return hold(into, maker.part(match.boards.parts[place], match.boards.at[place]));
    }

    // ---- sheets, draws, images, what is told

    public int sheet(int sheet, int bits, int n) {
        if (sheets.beyond(sheet) || (bits != 0 && bits != 8 && bits != 16 && bits != 32)) {
            return refused(BEYOND);
        }
        if (bits != 0 && n < 0) {
            return refused(STATE);
        }
        if (bits != 0 && n > ROW) {
            return refused(BEYOND);
        }
        sheets.lay(sheet, bits, bits == 0 ? 0 : n);
        return 1;
    }

    public int put(int sheet, int i, int v) {
        if (sheets.beyond(sheet)) {
            return refused(BEYOND);
        }
        if (sheets.missing(sheet)) {
            return refused(NONE);
        }
        if (i < 0 || i >= sheets.lengths[sheet]) {
            return refused(BEYOND);
        }
        sheets.write(sheet, i, v);
        return 1;
    }

    public int number(int sheet, int i) {
        if (sheets.beyond(sheet)) {
            return refused(BEYOND);
        }
        if (sheets.missing(sheet)) {
            return refused(NONE);
        }
        if (i < 0 || i >= sheets.lengths[sheet]) {
            return refused(BEYOND);
        }
        return sheets.rows[sheet][i];
    }

    public int shift(int sheet, int i, int other, int j, int n) {
        if (sheets.beyond(sheet) || sheets.beyond(other)) {
            return refused(BEYOND);
        }
        if (sheets.missing(sheet) || sheets.missing(other)) {
            return refused(NONE);
        }
        if (sheets.bits[sheet] != sheets.bits[other]) {
            return refused(KIND);
        }
        if (!sheets.stand(sheet, i, n) || !sheets.stand(other, j, n)) {
            return refused(BEYOND);
        }
        System.arraycopy(sheets.rows[sheet], i, sheets.rows[other], j, n);
        return n;
    }

    public int judge(int sheet, int side) {
        if (sheets.beyond(sheet) || noSide(side)) {
            return refused(BEYOND);
        }
        if (sheets.missing(sheet)) {
            return refused(NONE);
        }
        for (int i = 0; i < sheets.lengths[sheet]; i++) {
            if (i >= SLOTS || sheets.rows[sheet][i] != measures.worth(slots[i], side)) {
                return i;
            }
        }
        return -1;
    }

    public int seed(int v) {
        int earlier = draw;
        draw = v;
        return earlier;
    }

    public int image() {
        for (int s = 0; s < SLOTS; s++) {
            kept[s] = slots[s];
        }
        keptDraw = draw;
        images++;
        return images;
    }

    public int restore() {
        if (images == 0) {
            return refused(NONE);
        }
        for (int s = 0; s < SLOTS; s++) {
            slots[s] = kept[s];
        }
        draw = keptDraw;
        return sizes();
    }

    public int count(int what) {
        switch (what) {
            case 0:
                return sizes();
            case 1:
                return sureSlots();
            case 2:
                return taped;
            case 3:
                return match.begun ? match.made : 0;
            case 4:
                return draw;
            default:
                return refused(BEYOND);
        }
    }

    public int told(int k) {
        if (k < BEYOND || k > BIG) {
            return refused(BEYOND);
        }
        return refusals[k];
    }

    private int sizes() {
        int all = 0;
        for (int s = 0; s < SLOTS; s++) {
            all += slots[s].size;
        }
        return all;
    }

    private int sureSlots() {
        int all = 0;
        for (int s = 0; s < SLOTS; s++) {
            if (measures.sure(slots[s])) {
                all++;
            }
        }
        return all;
    }

    private int hold(int slot, Table whole) {
        slots[slot] = whole;
        return whole.size;
    }

    private int refused(int error) {
        refusals[error]++;
        return LOW - error;
    }

    private static boolean noSlot(int slot) {
        return slot < 0 || slot >= SLOTS;
    }

    private static boolean noSide(int side) {
        return side != 0 && side != 1;
    }

    private static boolean noSet(int set) {
        return set < 1 || set >= 1 << SLOTS || Integer.bitCount(set) > BOARDS;
    }

    // Masks: their bits are the places of games in a table.

    private static int lowest(long mask) {
        return Long.bitCount((mask & -mask) - 1);
    }

    /** The place of the i-th bit of a mask that has more than i. */
    private static int pick(long mask, int i) {
        long rest = mask;
        for (int k = 0; k < i; k++) {
            rest &= rest - 1;
        }
        return lowest(rest);
    }

    /** How many bits of a mask stand ahead of a place. */
    private static int ahead(long mask, int place) {
        return Long.bitCount(mask & ((1L << place) - 1));
    }

    private static boolean has(long mask, int place) {
        return (mask >>> place & 1L) != 0;
    }

    private static long carried(long mask, int[] to) {
        long result = 0;
        for (long rest = mask; rest != 0; rest &= rest - 1) {
            result |= 1L << to[lowest(rest)];
        }
        return result;
    }

    /**
     * Games, each with its options as masks over the ones ahead of it; a side whose mask is 0 is
     * SHUT with the number there. The table of one game has its followers in ORDER, itself last.
     */
    private static final class Table {
        final int size;
        final long[] left;
        final long[] right;
        final int[] leftNumber;
        final int[] rightNumber;
        final int[] depth;
        /** FLOORS, CEILINGS and PRICES, null till they are asked for. */
        int[] floor;
        int[] ceiling;
        int[] leftPrice;
        int[] rightPrice;

        Table(int size) {
            this.size = size;
            left = new long[size];
            right = new long[size];
            leftNumber = new int[size];
            rightNumber = new int[size];
            depth = new int[size];
        }

        void makeBounds() {
            floor = new int[size];
            ceiling = new int[size];
            leftPrice = new int[size];
            rightPrice = new int[size];
        }

        int root() {
            return size - 1;
        }

        long options(int node, int side) {
            return side == 0 ? left[node] : right[node];
        }

        int shutNumber(int node, int side) {
            return side == 0 ? leftNumber[node] : rightNumber[node];
        }

        long followers(int node) {
            long found = 1L << node;
            for (int i = node; i >= 0; i--) {
                if (has(found, i)) {
                    found |= left[i] | right[i];
                }
            }
            return found;
        }

        boolean tooBig() {
            for (int i = 0; i < size; i++) {
                if (Math.abs(leftNumber[i]) > GREATEST || Math.abs(rightNumber[i]) > GREATEST) {
                    return true;
                }
            }
            return false;
        }
    }

    /**
     * Where games are made: the same ones are kept once, their places don't change as others come
     * (so masks stay good), and their ORDER is kept beside.
     */
    private static final class Pool {
        final Table nodes = new Table(ROOM);
        final int[] rank = new int[ROOM];
        private final int[] at = new int[ROOM];
        private final int[] places = new int[ROOM];
        int size;

        Pool() {
            nodes.makeBounds();
        }

        void empty() {
            size = 0;
        }

        /** Writes a game one place beyond those that are kept. */
        void sketch(long left, long right, int leftNumber, int rightNumber) {
            nodes.left[size] = left;
            nodes.right[size] = right;
            nodes.leftNumber[size] = left == 0 ? leftNumber : 0;
            nodes.rightNumber[size] = right == 0 ? rightNumber : 0;
            int depth = 0;
            for (long rest = left | right; rest != 0; rest &= rest - 1) {
                depth = Math.max(depth, 1 + nodes.depth[lowest(rest)]);
            }
            nodes.depth[size] = depth;
        }

        /** Keeps the game of the sketch: its place, or that of the same one; -1 if none is free. */
        int settle() {
            int from = 0;
            int to = size;
            while (from < to) {
                int middle = (from + to) >>> 1;
                int other = at[middle];
                int way = Integer.compare(nodes.depth[size], nodes.depth[other]);
                way = way != 0 ? way : sideWay(size, other, 0);
                way = way != 0 ? way : sideWay(size, other, 1);
                if (way == 0) {
                    return other;
                }
                if (way < 0) {
                    to = middle;
                } else {
                    from = middle + 1;
                }
            }
            if (size >= MOST) {
                return -1;
            }
            for (int r = size; r > from; r--) {
                at[r] = at[r - 1];
                rank[at[r]] = r;
            }
            at[from] = size;
            rank[size] = from;
            size++;
            return size - 1;
        }

        int add(long left, long right, int leftNumber, int rightNumber) {
            sketch(left, right, leftNumber, rightNumber);
            return settle();
        }

        /** Of the games of a mask (not 0) the place of that which is first in the ORDER. */
        int first(long mask) {
            int found = lowest(mask);
            for (long rest = mask & (mask - 1); rest != 0; rest &= rest - 1) {
                int place = lowest(rest);
                if (rank[place] < rank[found]) {
                    found = place;
                }
            }
            return found;
        }

        private int sideWay(int one, int other, int side) {
            long ofOne = nodes.options(one, side);
            long ofOther = nodes.options(other, side);
            if (ofOne == ofOther) {
                return Integer.compare(nodes.shutNumber(one, side), nodes.shutNumber(other, side));
            }
            int way = Integer.compare(Long.bitCount(ofOne), Long.bitCount(ofOther));
            if (way != 0) {
                return way;
            }
            // as many on each side: where they part, the one that has the lesser option is ahead
            int parting = ROOM;
            for (long rest = ofOne ^ ofOther; rest != 0; rest &= rest - 1) {
                int place = lowest(rest);
                if (rank[place] < parting) {
                    parting = rank[place];
                    way = has(ofOne, place) ? -1 : 1;
                }
            }
            return way;
        }

        /** The place of a game of a table, its followers being kept, too; -1 if there is no room. */
        int take(Table from, int node) {
            long wanted = from.followers(node);
            for (int i = 0; i <= node; i++) {
                if (has(wanted, i)) {
                    sketch(carried(from.left[i], places), carried(from.right[i], places),
                            from.leftNumber[i], from.rightNumber[i]);
                    places[i] = settle();
                    if (places[i] < 0) {
                        return -1;
                    }
                }
            }
            return places[node];
        }

        /** The table of one of the games that are kept. */
        Table tableOf(int node) {
            long wanted = nodes.followers(node);
            Table made = new Table(Long.bitCount(wanted));
            int next = 0;
            for (int r = 0; r < size && next < made.size; r++) {
                int place = at[r];
                if (has(wanted, place)) {
                    places[place] = next;
                    made.left[next] = carried(nodes.left[place], places);
                    made.right[next] = carried(nodes.right[place], places);
                    made.leftNumber[next] = nodes.leftNumber[place];
                    made.rightNumber[next] = nodes.rightNumber[place];
                    made.depth[next] = nodes.depth[place];
                    next++;
                }
            }
            return made;
        }
    }

    /** Makes games out of numbers and of other games. */
    private static final class Maker {
        private final Pool pool;
        private final int[] places = new int[ROOM];
        private final int[] pairs = new int[MOST * MOST];
        private final int[] oneRank = new int[MOST];
        private final int[] otherRank = new int[MOST];
        final Table zero = new Table(1);

        Maker(Pool pool) {
            this.pool = pool;
        }

        Table plain(int number) {
            Table made = new Table(1);
            made.leftNumber[0] = number;
            made.rightNumber[0] = number;
            return made;
        }

        Table pauses(int n) {
            Table made = new Table(n + 1);
            for (int k = 1; k <= n; k++) {
                made.left[k] = 1L << (k - 1);
                made.depth[k] = k;
            }
            return made;
        }

        Table rungs(int[] row, int length) {
            pool.empty();
            int last = pool.add(0, 0, row[length - 1], row[length - 1]);
            for (int i = length - 2; i >= 0; i--) {
                int step = pool.add(0, 0, row[i], row[i]);
                last = pool.add(1L << step, 1L << last, 0, 0);
            }
            return pool.tableOf(last);
        }

        Table negated(Table whole) {
            pool.empty();
            for (int i = 0; i < whole.size; i++) {
                places[i] = pool.add(carried(whole.right[i], places), carried(whole.left[i], places),
                        -whole.rightNumber[i], -whole.leftNumber[i]);
            }
            return pool.tableOf(places[whole.root()]);
        }

        Table part(Table whole, int node) {
            if (node == whole.root()) {
                return whole;
            }
            pool.empty();
            return pool.tableOf(pool.take(whole, node));
        }

        /** The SUM, or null if its SIZE is above what a slot may hold. */
        Table joined(Table one, Table other) {
            pool.empty();
            for (int i = 0; i < one.size; i++) {
                for (int j = 0; j < other.size; j++) {
                    pool.sketch(pairMask(one.left[i], other.left[j], i, j),
                            pairMask(one.right[i], other.right[j], i, j),
                            one.leftNumber[i] + other.leftNumber[j],
                            one.rightNumber[i] + other.rightNumber[j]);
                    int place = pool.settle();
                    if (place < 0) {
                        return null;
                    }
                    pairs[i * MOST + j] = place;
                }
            }
            return pool.tableOf(pairs[one.root() * MOST + other.root()]);
        }

        private long pairMask(long ofOne, long ofOther, int i, int j) {
            long mask = 0;
            for (long rest = ofOne; rest != 0; rest &= rest - 1) {
                mask |= 1L << pairs[lowest(rest) * MOST + j];
            }
            for (long rest = ofOther; rest != 0; rest &= rest - 1) {
                mask |= 1L << pairs[i * MOST + lowest(rest)];
            }
            return mask;
        }

        /**
         * How two games stand in the ORDER. Both tables are in ORDER, so they can be ranked
         * together as two sorted rows are merged: options always have their rank already.
         */
        int wayOf(Table one, Table other) {
            int i = 0;
            int j = 0;
            int next = 0;
            while (i < one.size && j < other.size) {
                int way = nodeWay(one, i, other, j);
                if (way <= 0) {
                    oneRank[i] = next;
                    i++;
                }
                if (way >= 0) {
                    otherRank[j] = next;
                    j++;
                }
                next++;
                if (way == 0 && i == one.size && j == other.size) {
                    return 0;
                }
            }
            return i == one.size ? -1 : 1;
        }

        private int nodeWay(Table one, int i, Table other, int j) {
            if (one.depth[i] != other.depth[j]) {
                return one.depth[i] < other.depth[j] ? -1 : 1;
            }
            int way = sideWay(one, i, other, j, 0);
            return way != 0 ? way : sideWay(one, i, other, j, 1);
        }

        private int sideWay(Table one, int i, Table other, int j, int side) {
            long ofOne = one.options(i, side);
            long ofOther = other.options(j, side);
            if (ofOne == 0 && ofOther == 0) {
                return Integer.compare(one.shutNumber(i, side), other.shutNumber(j, side));
            }
            int way = Integer.compare(Long.bitCount(ofOne), Long.bitCount(ofOther));
            while (way == 0 && ofOne != 0 && ofOther != 0) {
                way = Integer.compare(oneRank[lowest(ofOne)], otherRank[lowest(ofOther)]);
                ofOne &= ofOne - 1;
                ofOther &= ofOther - 1;
            }
            return way;
        }
    }

    /** Scores, with and without waits, and whether a game is SURE. */
    private static final class Measures {
        /** LEFT and RIGHT SCORES of SUMS with WAITS: a row of them for each game. */
        private final int[] upLeft = new int[ROOM * ROOM];
        private final int[] upRight = new int[ROOM * ROOM];
        /** The same of SUMS with NEGATIVES of WAITS. */
        private final int[] downLeft = new int[ROOM * ROOM];
        private final int[] downRight = new int[ROOM * ROOM];
        private final int[] low = new int[ROOM];
        private final int[] high = new int[ROOM];

        int worth(Table whole, int side) {
            for (int i = 0; i < whole.size; i++) {
                addWaits(whole, i, 0);
            }
            int place = whole.root() * ROOM;
            return side == 0 ? upLeft[place] : upRight[place];
        }

        /** Sees to it that FLOORS, CEILINGS and PRICES of a game and its followers are known. */
        void bound(Table whole) {
            if (whole.floor == null) {
                whole.makeBounds();
                int most = whole.depth[whole.root()] + 1;
                for (int i = 0; i < whole.size; i++) {
                    measure(whole, i, most);
                }
            }
        }

        /** Measures one game, up to so many waits; its options have been measured ahead of it. */
        void measure(Table nodes, int node, int most) {
            addWaits(nodes, node, most);
            addNegatives(nodes, node, most);
            int base = node * ROOM;
            nodes.ceiling[node] = upRight[base];
            nodes.leftPrice[node] = 0;
            nodes.floor[node] = downLeft[base];
            nodes.rightPrice[node] = 0;
            for (int n = 1; n <= nodes.depth[node] + 1; n++) {
                if (upRight[base + n] > nodes.ceiling[node]) {
                    nodes.ceiling[node] = upRight[base + n];
                    nodes.leftPrice[node] = n;
                }
                if (downLeft[base + n] < nodes.floor[node]) {
                    nodes.floor[node] = downLeft[base + n];
                    nodes.rightPrice[node] = n;
                }
            }
        }

        private void addWaits(Table nodes, int node, int most) {
            int base = node * ROOM;
            for (int n = 0; n <= most; n++) {
                int value = highestOf(nodes.left[node], upRight, n);
                if (n > 0) {
                    value = Math.max(value, upRight[base + n - 1]);
                } else if (nodes.left[node] == 0) {
                    value = nodes.leftNumber[node];
                }
                upLeft[base + n] = value;
                upRight[base + n] = nodes.right[node] == 0 ? nodes.rightNumber[node]
                        : lowestOf(nodes.right[node], upLeft, n);
            }
        }

        private void addNegatives(Table nodes, int node, int most) {
            int base = node * ROOM;
            for (int n = 0; n <= most; n++) {
                int value = lowestOf(nodes.right[node], downLeft, n);
                if (n > 0) {
                    value = Math.min(value, downLeft[base + n - 1]);
                } else if (nodes.right[node] == 0) {
                    value = nodes.rightNumber[node];
                }
                downRight[base + n] = value;
                downLeft[base + n] = nodes.left[node] == 0 ? nodes.leftNumber[node]
                        : highestOf(nodes.left[node], downRight, n);
            }
        }

        private static int highestOf(long options, int[] scores, int n) {
            int found = LOWEST;
            for (long rest = options; rest != 0; rest &= rest - 1) {
                found = Math.max(found, scores[lowest(rest) * ROOM + n]);
            }
            return found;
        }

        private static int lowestOf(long options, int[] scores, int n) {
            int found = HIGHEST;
            for (long rest = options; rest != 0; rest &= rest - 1) {
                found = Math.min(found, scores[lowest(rest) * ROOM + n]);
            }
            return found;
        }

        boolean sure(Table whole) {
            for (int i = 0; i < whole.size; i++) {
                spread(whole, i);
                if (whole.left[i] == 0 && low[i] < whole.leftNumber[i]
                        || whole.right[i] == 0 && high[i] > whole.rightNumber[i]) {
                    return false;
                }
            }
            return true;
        }

        /** The least and the greatest number with which a follower is SHUT. */
        private void spread(Table whole, int node) {
            int least = HIGHEST;
            int greatest = LOWEST;
            for (int side = 0; side < 2; side++) {
                if (whole.options(node, side) == 0) {
                    least = Math.min(least, whole.shutNumber(node, side));
                    greatest = Math.max(greatest, whole.shutNumber(node, side));
                }
            }
            for (long rest = whole.left[node] | whole.right[node]; rest != 0; rest &= rest - 1) {
                int place = lowest(rest);
                least = Math.min(least, low[place]);
                greatest = Math.max(greatest, high[place]);
            }
            low[node] = least;
            high[node] = greatest;
        }
    }

    /** Which games are AT LEAST which, as masks both ways. */
    private static final class Least {
        /** For each game g those h than which g is AT LEAST. */
        final long[] under = new long[ROOM];
        /** For each game h those g that are AT LEAST h. */
        final long[] over = new long[ROOM];

        /** All pairs of followers of two games; whether the one is AT LEAST the other one. */
        boolean relate(Table g, Table h) {
            for (int i = 0; i < g.size; i++) {
                under[i] = 0;
            }
            for (int j = 0; j < h.size; j++) {
                over[j] = 0;
            }
            for (int i = 0; i < g.size; i++) {
                for (int j = 0; j < h.size; j++) {
                    if (shown(g, i, h, j)) {
                        note(i, j);
                    }
                }
            }
            return has(under[g.root()], h.root());
        }

        /** The last of some games with all ahead of it, whose pairs are known. */
        void relateLast(Table nodes, int last) {
            under[last] = 0;
            over[last] = 0;
            long others = ~(1L << last);
            for (int i = 0; i < last; i++) {
                under[i] &= others;
                over[i] &= others;
                if (shown(nodes, last, nodes, i)) {
                    note(last, i);
                }
                if (shown(nodes, i, nodes, last)) {
                    note(i, last);
                }
            }
        }

        void note(int i, int j) {
            under[i] |= 1L << j;
            over[j] |= 1L << i;
        }

        private boolean shown(Table g, int i, Table h, int j) {
            if (g.floor[i] < h.floor[j] || g.ceiling[i] < h.ceiling[j]) {
                return false;
            }
            for (long rest = h.left[j]; rest != 0; rest &= rest - 1) {
                int x = lowest(rest);
                if ((g.left[i] & over[x]) == 0 && (h.right[x] & under[i]) == 0) {
                    return false;
                }
            }
            for (long rest = g.right[i]; rest != 0; rest &= rest - 1) {
                int x = lowest(rest);
                if ((h.right[j] & under[x]) == 0 && (g.left[x] & over[j]) == 0) {
                    return false;
                }
            }
            return true;
        }

        /** ANSWER to x, one of Left's OPTIONS of h, once all pairs are known. */
        int leftAnswer(Table g, Table h, int x) {
            return named(g.left[g.root()], over[x], h.right[x], under[g.root()]);
        }

        /** ANSWER to x, one of Right's OPTIONS of g, once all pairs are known. */
        int rightAnswer(Table g, Table h, int x) {
            return named(h.right[h.root()], under[x], g.left[x], over[h.root()]);
        }

        private static int named(long options, long good, long ofX, long goodOfX) {
            if ((options & good) != 0) {
                return ahead(options, lowest(options & good));
            }
            return HUNDRED + ahead(ofX, lowest(ofX & goodOfX));
        }
    }

    /** Takes out options that are worse than others or are turned round. */
    private static final class Reducer {
        private static final int STEPS = 1000000;
        private final Pool pool;
        private final Measures measures;
        private final Least least = new Least();
        private final int[] places = new int[MOST];
        /** The options of the GAME as it is then. */
        private long left;
        private long right;

        Reducer(Pool pool, Measures measures) {
            this.pool = pool;
            this.measures = measures;
        }

        /** REDUCED of a SURE game: each follower is REDUCED of one of the game's, so there is room. */
        Table reduced(Table whole) {
            pool.empty();
            int most = whole.depth[whole.root()] + 1;
            for (int i = 0; i < whole.size; i++) {
                left = carried(whole.left[i], places);
                right = carried(whole.right[i], places);
                boolean changed = true;
                for (int step = 0; step < STEPS && changed; step++) {
                    pool.sketch(left, right, whole.leftNumber[i], whole.rightNumber[i]);
                    measures.measure(pool.nodes, pool.size, most);
                    least.relateLast(pool.nodes, pool.size);
                    changed = leftTurned() || rightTurned() || leftThinned() || rightThinned();
                }
                places[i] = pool.settle();
                if (places[i] < 0) {
                    return whole;
                }
                least.note(places[i], places[i]);
            }
            return pool.tableOf(places[whole.root()]);
        }

        private boolean leftTurned() {
            Table nodes = pool.nodes;
            long rest = left;
            for (int k = Long.bitCount(left); k > 0; k--) {
                int x = pool.first(rest);
                rest &= ~(1L << x);
                long turning = open(nodes.right[x] & least.under[pool.size], nodes.left);
                if (turning != 0) {
                    left = left & ~(1L << x) | nodes.left[pool.first(turning)];
                    return true;
                }
            }
            return false;
        }

        private boolean rightTurned() {
            Table nodes = pool.nodes;
            long rest = right;
            for (int k = Long.bitCount(right); k > 0; k--) {
                int x = pool.first(rest);
                rest &= ~(1L << x);
                long turning = open(nodes.left[x] & least.over[pool.size], nodes.right);
                if (turning != 0) {
                    right = right & ~(1L << x) | nodes.right[pool.first(turning)];
                    return true;
                }
            }
            return false;
        }

        /** Those of a mask that have options of a side. */
        private static long open(long mask, long[] options) {
            long found = 0;
            for (long rest = mask; rest != 0; rest &= rest - 1) {
                int place = lowest(rest);
                if (options[place] != 0) {
                    found |= 1L << place;
                }
            }
            return found;
        }

        private boolean leftThinned() {
            int x = firstBeaten(left, least.over, least.under);
            if (x >= 0) {
                left &= ~(1L << x);
            }
            return x >= 0;
        }

        private boolean rightThinned() {
            int x = firstBeaten(right, least.under, least.over);
            if (x >= 0) {
                right &= ~(1L << x);
            }
            return x >= 0;
        }

        /** The first that another one is as good as: a better one, or one with a lesser number. */
        private int firstBeaten(long options, long[] asGood, long[] asBad) {
            long rest = options;
            for (int k = Long.bitCount(options); k > 0; k--) {
                int x = pool.first(rest);
                rest &= ~(1L << x);
                long others = options & asGood[x] & ~(1L << x);
                if (others != 0 && ((others & ~asBad[x]) != 0 || pool.rank[pool.first(others)] < pool.rank[x])) {
                    return x;
                }
            }
            return -1;
        }
    }

    /** Reads THE TEXT of a game. */
    private static final class Reader {
        private final Pool pool;
        private final Maker maker;
        /** OPTIONS that were read in frames that are still open. */
        private final Table[] pending = new Table[TAPE];
        private int waiting;
        private byte[] text;
        private int length;
        private int place;
        /** The FAULT, or -1. */
        int fault;
        /** The ERROR of the first part that may not come to a slot, or 0. */
        int trouble;

        Reader(Pool pool, Maker maker) {
            this.pool = pool;
            this.maker = maker;
        }

        Table read(byte[] bytes, int n) {
            text = bytes;
            length = n;
            place = 0;
            waiting = 0;
            fault = -1;
            trouble = 0;
            Table whole = readSum(0);
            if (place < length) {
                fail();
            }
            return whole;
        }

        /** The byte that comes next; none comes at the end or behind a FAULT. */
        private int next() {
            return fault < 0 && place < length ? text[place] : -1;
        }

        private void fail() {
            if (fault < 0) {
                fault = place;
            }
        }

        private void expect(int sign) {
            if (next() == sign) {
                place++;
            } else {
                fail();
            }
        }

        private Table readSum(int open) {
            Table whole = readUnit(open);
            for (int k = 0; k < TAPE && next() == '+'; k++) {
                place++;
                Table more = readUnit(open);
                whole = unfit() ? maker.zero : fitting(maker.joined(whole, more));
            }
            return whole;
        }

        private Table readUnit(int open) {
            int sign = next();
            if (sign == 'w') {
                place++;
                return maker.pauses(readDigits(1));
            }
            if (digit(sign)) {
                return maker.plain(readDigits(3));
            }
            if (sign != '-' && sign != '<' || open >= OPEN) {
                fail();
                return maker.zero;
            }
            place++;
            return sign == '-' ? maker.negated(readUnit(open + 1)) : readFrame(open + 1);
        }

        private Table readFrame(int open) {
            int base = waiting;
            int leftNumber = readSide(open);
            int middle = waiting;
            expect('|');
            int rightNumber = readSide(open);
            expect('>');
            Table made = framed(base, middle, leftNumber, rightNumber);
            waiting = base;
            return made;
        }

        /** The number of a SHUT side; else its OPTIONS wait. */
        private int readSide(int open) {
            if (next() == ':') {
                place++;
                if (next() == '-') {
                    place++;
                    return -readDigits(3);
                }
                return readDigits(3);
            }
            hang(readSum(open));
            for (int k = 0; k < TAPE && next() == ','; k++) {
                place++;
                hang(readSum(open));
            }
            return 0;
        }

        private void hang(Table whole) {
            if (waiting < pending.length) {
                pending[waiting] = whole;
                waiting++;
            }
        }

        private int readDigits(int most) {
            int number = 0;
            int n = 0;
            while (n < most && digit(next())) {
                number = number * 10 + (next() - '0');
                place++;
                n++;
            }
            if (n == 0) {
                fail();
            }
            return number;
        }

        private static boolean digit(int sign) {
            return sign >= '0' && sign <= '9';
        }

        /** Whether what has been read comes to no slot: then only the FAULT is looked for. */
        private boolean unfit() {
            return fault >= 0 || trouble != 0;
        }

        private Table fitting(Table made) {
            if (made == null) {
                trouble = FULL;
                return maker.zero;
            }
            if (made.tooBig()) {
                trouble = BIG;
            }
            return made;
        }

        /** The game whose Left's OPTIONS wait from base on, Right's from middle on. */
        private Table framed(int base, int middle, int leftNumber, int rightNumber) {
            if (unfit()) {
                return maker.zero;
            }
            pool.empty();
            long left = 0;
            long right = 0;
            for (int k = base; k < waiting; k++) {
                int option = pool.take(pending[k], pending[k].root());
                if (option < 0) {
                    trouble = FULL;
                    return maker.zero;
                }
                left |= k < middle ? 1L << option : 0;
                right |= k < middle ? 0 : 1L << option;
            }
            int made = pool.add(left, right, leftNumber, rightNumber);
            if (made < 0) {
                trouble = FULL;
                return maker.zero;
            }
            return pool.tableOf(made);
        }
    }

    /** Makes the games of strips. */
    private static final class Walker {
        private static final int LEFT = -1;
        private static final int RIGHT = -2;
        /** Sixteen steps are the most that eight cells allow. */
        private static final int DEEPEST = 20;
        private final Pool pool;
        /** A stone, or the points that lie there. */
        private final int[] cells = new int[STRIP];
        private int length;
        /**
         * The game for each set of cells with stones, -1 while it isn't made. Stones keep their
         * row, and no cell is reached by stones of both sides: so where they stand tells the rest.
         */
        private final int[] known = new int[1 << STRIP];

        Walker(Pool pool) {
            this.pool = pool;
        }

        /** The first place that no strip has, -1 if the bytes are one. */
        int firstWrong(byte[] bytes, int n) {
            for (int k = 0; k < n; k++) {
                int sign = bytes[k];
                boolean fine = sign == 'l' || sign == 'r' || sign >= '0' && sign <= '9';
                if (!fine || k >= STRIP) {
                    return k;
                }
            }
            return n == 0 ? 0 : -1;
        }

        /** The game of a strip, or null if its SIZE is above what a slot may hold. */
        Table walk(byte[] bytes, int n) {
            length = n;
            for (int c = 0; c < n; c++) {
                int sign = bytes[c];
                cells[c] = sign == 'l' ? LEFT : sign == 'r' ? RIGHT : sign - '0';
            }
            for (int k = 0; k < known.length; k++) {
                known[k] = -1;
            }
            pool.empty();
            int made = stand(0, 0);
            return made < 0 ? null : pool.tableOf(made);
        }

        private int stand(int points, int deep) {
            int stones = 0;
            int lying = 0;
            for (int c = 0; c < length; c++) {
                if (cells[c] < 0) {
                    stones |= 1 << c;
                } else {
                    lying += cells[c];
                }
            }
            if (known[stones] >= 0 || deep > DEEPEST) {
                return known[stones];
            }
            long left = 0;
            long right = 0;
            for (int c = 0; c < length; c++) {
                int to = cells[c] == LEFT ? c + 1 : cells[c] == RIGHT ? c - 1 : -1;
                if (to >= 0 && to < length && cells[to] >= 0) {
                    int made = step(c, to, points, deep);
                    if (made < 0) {
                        return -1;
                    }
                    left |= cells[c] == LEFT ? 1L << made : 0;
                    right |= cells[c] == RIGHT ? 1L << made : 0;
                }
            }
            known[stones] = pool.add(left, right, points - lying, points + lying);
            return known[stones];
        }

        private int step(int from, int to, int points, int deep) {
            int stone = cells[from];
            int gathered = cells[to];
            cells[to] = stone;
            cells[from] = 0;
            int made = stand(stone == LEFT ? points + gathered : points - gathered, deep + 1);
            cells[from] = stone;
            cells[to] = gathered;
            return made;
        }
    }

    /** A SUM OF SLOTS: boards that are played on, and the scores of all that can stand there. */
    private static final class Sum {
        final Table[] parts = new Table[BOARDS];
        final int[] at = new int[BOARDS];
        int set;
        private final int[] slotOf = new int[BOARDS];
        private int boards;
        private final Table zero;
        /** Scores, the third board's places going fastest; good once they are filled. */
        private int[] left = new int[1];
        private int[] right = new int[1];
        private boolean filled;

        Sum(Table zero) {
            this.zero = zero;
            for (int b = 0; b < BOARDS; b++) {
                parts[b] = zero;
            }
        }

        void lay(int chosen, Table[] slots) {
            set = chosen;
            boards = 0;
            for (int s = 0; s < SLOTS && boards < BOARDS; s++) {
                if ((chosen >> s & 1) != 0) {
                    slotOf[boards] = s;
                    stand(boards, slots[s]);
                    boards++;
                }
            }
            for (int b = boards; b < BOARDS; b++) {
                stand(b, zero);
            }
        }

        private void stand(int b, Table whole) {
            // games never change, so the scores stay good for the same ones
            filled = filled && parts[b] == whole;
            parts[b] = whole;
            at[b] = whole.root();
        }

        /** Which board is that of a slot, -1 if none is. */
        int placeOf(int slot) {
            for (int b = 0; b < boards; b++) {
                if (slotOf[b] == slot) {
                    return b;
                }
            }
            return -1;
        }

        /** A move by its slot, its board having been told. */
        int named(int move) {
            return slotOf[move / HUNDRED] * HUNDRED + move % HUNDRED;
        }

        int choices(int b, int side) {
            return Long.bitCount(parts[b].options(at[b], side));
        }

        int allChoices(int side) {
            int all = 0;
            for (int b = 0; b < boards; b++) {
                all += choices(b, side);
            }
            return all;
        }

        int points(int side) {
            int all = 0;
            for (int b = 0; b < boards; b++) {
                all += parts[b].shutNumber(at[b], side);
            }
            return all;
        }

        int worth(int side) {
            fill();
            return side == 0 ? left[place()] : right[place()];
        }

        /** 100 times the board and the number of the option, -1 if the side is SHUT. */
        int bestMove(int side) {
            fill();
            int found = -1;
            int value = 0;
            for (int b = 0; b < boards; b++) {
                int own = at[b];
                int number = 0;
                for (long rest = parts[b].options(own, side); rest != 0; rest &= rest - 1) {
                    at[b] = lowest(rest);
                    int then = side == 0 ? right[place()] : left[place()];
                    if (found < 0 || (side == 0 ? then > value : then < value)) {
                        found = b * HUNDRED + number;
                        value = then;
                    }
                    number++;
                }
                at[b] = own;
            }
            return found;
        }

        /** The move at the place that is left by how many there are, -1 if the side is SHUT. */
        int drawn(int side, int from) {
            int all = allChoices(side);
            int rest = all > 0 ? from % all : 0;
            for (int b = 0; b < boards; b++) {
                int here = choices(b, side);
                if (rest < here) {
                    return b * HUNDRED + rest;
                }
                rest -= here;
            }
            return -1;
        }

        private int place() {
            return (at[0] * parts[1].size + at[1]) * parts[2].size + at[2];
        }

        private void fill() {
            if (filled) {
                return;
            }
            int all = parts[0].size * parts[1].size * parts[2].size;
            if (left.length < all) {
                int room = Math.min(STATES, Math.max(all, 2 * left.length));
                left = new int[room];
                right = new int[room];
            }
            for (int i = 0; i < parts[0].size; i++) {
                for (int j = 0; j < parts[1].size; j++) {
                    fillRow(i, j);
                }
            }
            filled = true;
        }

        private void fillRow(int i, int j) {
            int width = parts[2].size;
            int rows = parts[1].size;
            int base = (i * rows + j) * width;
            for (int k = 0; k < width; k++) {
                left[base + k] = LOWEST;
                right[base + k] = HIGHEST;
            }
            for (int side = 0; side < 2; side++) {
                for (long rest = parts[0].options(i, side); rest != 0; rest &= rest - 1) {
                    weigh(side, base, (lowest(rest) * rows + j) * width, width);
                }
                for (long rest = parts[1].options(j, side); rest != 0; rest &= rest - 1) {
                    weigh(side, base, (i * rows + lowest(rest)) * width, width);
                }
            }
            int leftShut = parts[0].leftNumber[i] + parts[1].leftNumber[j];
            int rightShut = parts[0].rightNumber[i] + parts[1].rightNumber[j];
            for (int k = 0; k < width; k++) {
                fillPlace(base, k, leftShut, rightShut);
            }
        }

        /** A move that leads from a row of places to another row. */
        private void weigh(int side, int base, int to, int width) {
            for (int k = 0; k < width; k++) {
                if (side == 0) {
                    left[base + k] = Math.max(left[base + k], right[to + k]);
                } else {
                    right[base + k] = Math.min(right[base + k], left[to + k]);
                }
            }
        }

        private void fillPlace(int base, int k, int leftShut, int rightShut) {
            Table last = parts[2];
            int high = left[base + k];
            for (long rest = last.left[k]; rest != 0; rest &= rest - 1) {
                high = Math.max(high, right[base + lowest(rest)]);
            }
            int low = right[base + k];
            for (long rest = last.right[k]; rest != 0; rest &= rest - 1) {
                low = Math.min(low, left[base + lowest(rest)]);
            }
            left[base + k] = high == LOWEST ? leftShut + last.leftNumber[k] : high;
            right[base + k] = low == HIGHEST ? rightShut + last.rightNumber[k] : low;
        }
    }

    /** A MATCH, with the moves that were made in it. */
    private static final class Match {
        final Sum boards;
        boolean begun;
        int turn;
        int made;
        final int[] moves = new int[MOVES];
        private final int[] from = new int[MOVES];

        Match(Table zero) {
            boards = new Sum(zero);
        }

        void start(int set, int side, Table[] slots) {
            boards.lay(set, slots);
            begun = true;
            turn = side;
            made = 0;
        }

        boolean over() {
            return boards.allChoices(turn) == 0;
        }

        /** A move by its slot and option, -1 if there is none such. */
        int moveAt(int slot, int i) {
            int b = boards.placeOf(slot);
            return b < 0 || i < 0 || i >= boards.choices(b, turn) ? -1 : b * HUNDRED + i;
        }

        void make(int move) {
            if (move < 0 || made >= MOVES) {
                return;
            }
            int b = move / HUNDRED;
            moves[made] = move;
            from[made] = boards.at[b];
            boards.at[b] = pick(boards.parts[b].options(boards.at[b], turn), move % HUNDRED);
            made++;
            turn = 1 - turn;
        }

        void unmake() {
            if (made > 0) {
                made--;
                boards.at[moves[made] / HUNDRED] = from[made];
                turn = 1 - turn;
            }
        }
    }

    /** The SHEETS: rows of numbers. */
    private static final class Sheets {
        final int[][] rows = new int[SHEETS][ROW];
        /** 0: the sheet is missing. */
        final int[] bits = new int[SHEETS];
        final int[] lengths = new int[SHEETS];

        boolean beyond(int sheet) {
            return sheet < 0 || sheet >= SHEETS;
        }

        boolean missing(int sheet) {
            return bits[sheet] == 0;
        }

        void lay(int sheet, int width, int n) {
            bits[sheet] = width;
            lengths[sheet] = n;
            for (int i = 0; i < ROW; i++) {
                rows[sheet][i] = 0;
            }
        }

        void write(int sheet, int i, int v) {
            rows[sheet][i] = bits[sheet] == 8 ? (byte) v : bits[sheet] == 16 ? (short) v : v;
        }

        boolean stand(int sheet, int i, int n) {
            return n >= 0 && i >= 0 && i <= lengths[sheet] && n <= lengths[sheet] - i;
        }

        boolean tooBig(int sheet) {
            for (int i = 0; i < lengths[sheet]; i++) {
                if (rows[sheet][i] > GREATEST || rows[sheet][i] < -GREATEST) {
                    return true;
                }
            }
            return false;
        }
    }
}
