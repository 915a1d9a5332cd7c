import java.util.Arrays;

/** A house in which a language of arrays is spoken: ../shared/DOC.md says what every call answers. */
public final class ArrayHouse {
    public static final int NONE = -1;

    private static final int TAPE_LIMIT = 4000;
    private static final int SHOWN_LIMIT = 8000;
    private static final int TEXT_LIMIT = 6000;
    private static final int STEP_LIMIT = 40000;
    private static final int OPEN_LIMIT = 40;
    private static final int HOUSE_NAMES = 60;
    private static final int CALL_NAMES = 20;
    private static final int RANKS = 6;
    private static final int MOST = 1000;
    private static final int DEPTHS = 8;
    private static final int GREATEST = 2000000000;
    private static final int LAST_LINK = 2147483646;

    private static final int SYNTAX = 1;
    private static final int VALUE = 2;
    private static final int RANK = 3;
    private static final int LENGTH = 4;
    private static final int DOMAIN = 5;
    private static final int INDEX = 6;
    private static final int LIMIT = 7;
    private static final int STEPS = 8;

    /** What a NAME means. */
    private static final int A_VALUE = 1;
    private static final int A_FUNCTION = 2;

    /** The second number of an item that is no NUMBER. */
    private static final int SIGN = 0;
    private static final int BOX = -1;

    /** The first word of a function's node; of a value it is the RANK. */
    private static final int PRIM = -1;
    private static final int BRACE = -2;
    private static final int MADE = -3;
    private static final int NAMED = -4;
    private static final int NODE_WORDS = 4;

    /** What := is as something that was met: no handle is so small. */
    private static final int ASSIGNMENT = 1;

    /** Handles begin here, so that 0 can be the handle of nothing. */
    private static final int FIRST = 16;

    /** Kinds of tokens; an opener is one less than its closer. */
    private static final int A_NUMBER = 1;
    private static final int A_QUOTED = 2;
    private static final int A_NAME = 3;
    private static final int PAREN = 4;
    private static final int END_PAREN = 5;
    private static final int BRACKET = 6;
    private static final int END_BRACKET = 7;
    private static final int CURLY = 8;
    private static final int END_CURLY = 9;
    private static final int SEMICOLON = 10;
    private static final int NEWLINE = 11;
    private static final int COLON = 12;
    private static final int GUARD = 13;
    private static final int ASSIGN = 14;
    private static final int LEFT = 15;
    private static final int RIGHT = 16;
    private static final int SELF = 17;
    private static final int SLASH = 20;
    private static final int BACKSLASH = 21;
    private static final int EACH = 22;
    private static final int SWAP = 23;
    private static final int OUTER = 24;
    private static final int INNER = 25;
    private static final int KEY = 26;
    private static final int BY_RANK = 27;
    private static final int POW = 28;

    /** The functions' signs and WORDS, which are kinds of tokens, too. */
    private static final int PLUS = 40;
    private static final int MINUS = 41;
    private static final int TIMES = 42;
    private static final int OVER = 43;
    private static final int POWER = 44;
    private static final int RESIDUE = 45;
    private static final int BANG = 46;
    private static final int ROLL = 47;
    private static final int COMMA = 48;
    private static final int EQUAL = 49;
    private static final int DIFFER = 50;
    private static final int LESS = 51;
    private static final int LESS_EQUAL = 52;
    private static final int MORE = 53;
    private static final int MORE_EQUAL = 54;
    private static final int FLOOR = 60;
    private static final int CEIL = 61;
    private static final int NOT = 62;
    private static final int MIN = 63;
    private static final int MAX = 64;
    private static final int AND = 65;
    private static final int OR = 66;
    private static final int GCD = 67;
    private static final int LCM = 68;
    private static final int RHO = 69;
    private static final int TALLY = 70;
    private static final int NESTING = 71;
    private static final int HEAD = 72;
    private static final int ENC = 73;
    private static final int MIX = 74;
    private static final int SPLIT = 75;
    private static final int ENL = 76;
    private static final int REV = 77;
    private static final int ROT = 78;
    private static final int TR = 79;
    private static final int TAKE = 80;
    private static final int DROP = 81;
    private static final int REP = 82;
    private static final int EXPAND = 83;
    private static final int UNIQ = 84;
    private static final int UP = 85;
    private static final int DOWN = 86;
    private static final int IOTA = 87;
    private static final int WHERE = 88;
    private static final int MEM = 89;
    private static final int FIND = 90;
    private static final int PICK = 91;
    private static final int MATCH = 92;
    private static final int WITHOUT = 93;
    private static final int UNION = 94;
    private static final int INTER = 95;
    private static final int PART = 96;
    private static final int PENC = 97;
    private static final int ENCO = 98;
    private static final int DECO = 99;
    private static final int FMT = 100;
    private static final int EXE = 101;
    private static final int SAME = 102;

    /** From PLUS on: 1 takes no left argument, 2 wants one, 3 either, 0 no function. */
    private static final String TAKES =
        "333323333222222000001112222223111111112322221113122222222222113";
    private static final int FUNCTION_WORDS = 43;
    private static final int OPERATOR_WORDS = 3;

    /** The WORDS in columns of eight: functions from FLOOR on, operators from KEY on, the others from LEFT on. */
    private static final String WORDS =
        "floor   ceil    not     min     max     and     or      gcd     lcm     rho     tally   depth   first   enc     mix     split   enl     rev     rot     tr      take    drop    rep     expand  uniq    up      down    iota    where   mem     find    pick    match   without union   inter   part    penc    enco    deco    fmt     exe     same    key     rank    pow     left    right   self    ";
    private static final int WORD_COUNT = 49;

    /** Signs of one byte only, by the kinds that they begin with: PLUS, PAREN, BACKSLASH. */
    private static final String FUNCTION_SIGNS = "+-*%^|!?,=";
    private static final String BRACKETS = "()[]{};\n";
    private static final String OPERATOR_SIGNS = "\\\"~@.";


    private final State state = new State();
    private final Heap heap = new Heap(state);
    private final Text text = new Text();
    private final Places places = new Places(state, heap, text);
    private final Writer screen = new Writer(heap, SHOWN_LIMIT);
    private final Reader reader;
    private final byte[] tape = new byte[TAPE_LIMIT];
    private final int[] path = new int[DEPTHS + 2];
    private int tapeLength;
    private int pathLength;
    private int eventAt = NONE;

    public ArrayHouse() {
        Shapes shapes = new Shapes(state, heap);
        Operators operators = new Operators(state, heap, places, shapes);
        reader = new Reader(state, heap, text, places, shapes, operators);
        operators.reader = reader;
    }

    public int feed(int a, int b, int c, int d, int e) {
        if (tapeLength > TAPE_LIMIT - 20) return NONE;
        append(a);
        append(b);
        append(c);
        append(d);
        append(e);
        return tapeLength;
    }

    private void append(int four) {
        for (int shift = 24; shift >= 0; shift -= 8) {
            if (tapeLength >= 0 && tapeLength < tape.length) tape[tapeLength++] = (byte) (four >> shift);
        }
    }

    public int trim(int n) {
        if (n < 0 || n > tapeLength) return NONE;
        tapeLength = n;
        return n;
    }

    public int run() {
        screen.length = 0;
        pathLength = 0;
        eventAt = NONE;
        state.begin();
        keepHouse();
        int from = text.length;
        for (int i = 0; i < tapeLength && i < tape.length; i++) text.add(tape[i] & 255);
        tapeLength = 0;
        int first = text.count;
        int fault = text.scan(from);
        if (fault >= 0) return -10 - (fault - from);
        statements(first, text.count);
        return state.event;
    }

    /** What the HOUSE means is all that a run leaves: it is packed, so that the rest can be used again. */
    private void keepHouse() {
        reader.place = 0;
        places.deepest = 0;
        places.guardCount = 0;
        places.pack(FIRST, 0);
        text.keptLength = 0;
        for (int s = 0; s < HOUSE_NAMES; s++) {
            if (places.meansAt(s) != A_FUNCTION) continue;
            int from = peek(places.from, s);
            int to = peek(places.to, s);
            poke(places.from, s, text.keptLength);
            poke(places.to, s, text.keep(from, to));
        }
        text.length = 0;
        text.count = 0;
        for (int s = 0; s < HOUSE_NAMES; s++) {
            if (places.meansAt(s) != A_FUNCTION) continue;
            int first = text.count;
            text.restore(peek(places.from, s), peek(places.to, s));
            poke(places.from, s, first);
            poke(places.to, s, text.count);
        }
    }

    /** Does the STATEMENTS of a text; which ones are SHOWN is told by how they end. */
    private void statements(int first, int last) {
        int lo = first;
        for (int number = 0; lo <= last && state.event == 0; number++) {
            int hi = text.statementEnd(lo, last);
            int base = heap.top;
            int value = lo < hi && state.spend(1) ? reader.phrase(lo, hi, 0) : 0;
            if (value != 0 && !heap.isValue(value)) state.raise(SYNTAX);
            if (state.event != 0) {
                eventAt = number;
            } else if (value != 0 && !reader.ended) {
                screen.write(value);
                screen.add('\n');
            }
            places.keep(base, 0);
            lo = hi + 1;
        }
    }

    public int at() {
        return eventAt;
    }

    public int steps() {
        return state.spent;
    }

    public int shown() {
        return screen.length;
    }

    public int byteAt(int i) {
        if (i < 0 || i >= screen.length || i >= screen.row.length) return NONE;
        return screen.row[i];
    }

    public int view() {
        int slot = nameOnTape();
        pathLength = 0;
        if (slot < 0) return NONE;
        if (places.meansAt(slot) == A_FUNCTION) return -2;
        path[0] = peek(places.from, slot);
        pathLength = 1;
        return heap.rank(path[0]);
    }

    /** The HOUSE's slot of the NAME that THE TAPE is, which means something; NONE. THE TAPE is empty then. */
    private int nameOnTape() {
        int length = tapeLength;
        tapeLength = 0;
        if (length < 1 || length > 8 || length > tape.length || !isLetter(tape[0])) return NONE;
        for (int i = 1; i < length; i++) {
            if (!isLetter(tape[i]) && !isDigit(tape[i])) return NONE;
        }
        return places.slotIn(0, packed(tape, 0, length), packed(tape, 4, length));
    }

    public int into(int i) {
        int value = viewed();
        if (value == 0 || i < 0 || i >= heap.count(value) || heap.den(value, i) != BOX) return NONE;
        if (pathLength < 1 || pathLength >= path.length) return NONE;
        path[pathLength++] = heap.num(value, i);
        return heap.rank(viewed());
    }

    public int back() {
        if (pathLength < 2) return NONE;
        pathLength--;
        return heap.rank(viewed());
    }

    public int about(int what) {
        int value = viewed();
        if (value == 0) return NONE;
        switch (what) {
            case 0: return heap.rank(value);
            case 1: return heap.count(value);
            case 2: return heap.size(value);
            case 3: return heap.depth(value);
            case 4: return heap.lane(value);
            case 5: return pathLength - 1;
            default: return NONE;
        }
    }

    public int extent(int k) {
        int value = viewed();
        if (value == 0 || k < 0 || k >= heap.rank(value)) return NONE;
        return heap.wide(value, k);
    }

    public int kind(int i) {
        int value = viewed();
        if (value == 0 || i < -1 || i >= heap.count(value)) return NONE;
        int d = heap.den(value, Math.max(0, i));
        return d == BOX ? 2 : d == SIGN ? 1 : 0;
    }

    public int number(int i, boolean below) {
        int value = viewed();
        if (value == 0 || i < -1 || i >= heap.count(value)) return 0;
        int n = heap.num(value, Math.max(0, i));
        int d = heap.den(value, Math.max(0, i));
        if (d == BOX) return 0;
        boolean blank = i == -1 && heap.count(value) > 0;
        if (d == SIGN) return blank ? ' ' : n;
        if (blank) return below ? 1 : 0;
        return below ? d : n;
    }

    /** The VIEW's handle; 0 if there is none. */
    private int viewed() {
        return pathLength > 0 ? peek(path, pathLength - 1) : 0;
    }

    public int told(int what) {
        switch (what) {
            case 0: return meaning(A_VALUE) + meaning(A_FUNCTION);
            case 1: return meaning(A_VALUE);
            case 2: return meaning(A_FUNCTION);
            case 3: return reader.houseBytes();
            case 4: return sizes();
            case 5: return state.origin;
            case 6: return state.link;
            case 7: return tapeLength;
            default: return NONE;
        }
    }

    private int meaning(int what) {
        int n = 0;
        for (int s = 0; s < HOUSE_NAMES; s++) {
            if (places.meansAt(s) == what) n++;
        }
        return n;
    }

    private int sizes() {
        int sum = 0;
        for (int s = 0; s < HOUSE_NAMES; s++) {
            if (places.meansAt(s) == A_VALUE) sum += heap.size(peek(places.from, s));
        }
        return sum;
    }

    public int forget() {
        int slot = nameOnTape();
        if (slot < 0) return NONE;
        int meant = places.meansAt(slot);
        poke(places.means, slot, 0);
        pathLength = 0;
        return meant;
    }

    public int set(int what, int v) {
        if (what == 0 && (v == 0 || v == 1)) {
            int was = state.origin;
            state.origin = v;
            return was;
        }
        if (what == 1 && v >= 1 && v <= LAST_LINK) {
            int was = state.link;
            state.link = v;
            return was;
        }
        return NONE;
    }

    /** What a row holds at i; 0 outside it. */
    private static int peek(int[] row, int i) {
        return i >= 0 && i < row.length ? row[i] : 0;
    }

    private static void poke(int[] row, int i, int x) {
        if (i >= 0 && i < row.length) row[i] = x;
    }

    private static boolean isLetter(int c) {
        return c >= 'a' && c <= 'z';
    }

    private static boolean isDigit(int c) {
        return c >= '0' && c <= '9';
    }

    /** Four bytes of a NAME in one number, from there on; those from end on are 0. */
    private static int packed(byte[] row, int from, int end) {
        int x = 0;
        for (int i = from; i < from + 4; i++) {
            x = x << 8 | (i >= 0 && i < end && i < row.length ? row[i] & 255 : 0);
        }
        return x;
    }

    private static long gcd(long a, long b) {
        long x = Math.abs(a);
        long y = Math.abs(b);
        // the numbers get less at least by half in each two turns
        for (int turns = 0; y != 0 && turns < 200; turns++) {
            long rest = x % y;
            x = y;
            y = rest;
        }
        return x;
    }

    /** EVENTS, STEPS, what is open, and what the house tells of itself. */
    private static final class State {
        private int event;
        private int spent;
        private int open;
        private int origin = 1;
        private int link = 1;

        private void begin() {
            event = 0;
            spent = 0;
            open = 0;
        }

        /** The first event that is met stands. Always 0, the handle of nothing. */
        private int raise(int e) {
            if (event == 0) event = e;
            return 0;
        }

        /** Likewise NONE, for those whose answer may be 0. */
        private int refuse(int e) {
            if (event == 0) event = e;
            return NONE;
        }

        private boolean fail(int e) {
            if (event == 0) event = e;
            return false;
        }

        private boolean spend(int n) {
            if (event != 0) return false;
            if (n > STEP_LIMIT - spent) {
                event = STEPS;
                return false;
            }
            spent += n;
            return true;
        }

        private boolean enter() {
            if (event != 0) return false;
            if (open >= OPEN_LIMIT) {
                event = LIMIT;
                return false;
            }
            open++;
            return true;
        }

        private void leave() {
            if (open > 0) open--;
        }

        /** LINK goes on; it modulo n. */
        private int roll(int n) {
            link = (int) (16807L * link % 2147483647L);
            return n > 0 ? link % n : 0;
        }
    }

    /** All values, nodes of functions and lists lie in one row of words; a handle is the place of the first one. */
    private static final class Heap {
        /** More than a run can need: of the HOUSE 60 times 1000 parts of 14 words, and 29 for each STEP. */
        private static final int WORDS_LIMIT = 2000000;
        private static final int COUNT = 1;
        private static final int SIZE = 2;
        private static final int DEPTH = 3;
        private static final int WIDE = 4;
        private static final int MOVED = -9;

        private final State state;
        private final int[] shape = new int[RANKS + 1];
        private int[] words = new int[4096];
        private int[] spare = new int[1024];
        private int top = FIRST;
        private int spareTop;
        private int base = FIRST;
        private int fillN;
        private int fillD = 1;

        private Heap(State state) {
            this.state = state;
        }

        private int look(int i) {
            return i >= 0 && i < words.length ? words[i] : 0;
        }

        private void put(int i, int x) {
            if (i >= FIRST && i < words.length) words[i] = x;
        }

        private int grab(int n) {
            if (n < 0 || n > WORDS_LIMIT - top) {
                if (state.event == 0) state.event = LIMIT;
                return 0;
            }
            int length = words.length;
            if (top + n > length) words = Arrays.copyOf(words, Math.max(top + n, Math.min(WORDS_LIMIT, 4 * length)));
            int h = top;
            top += n;
            return h;
        }

        private int rank(int v) {
            return v >= 0 && v < words.length ? words[v] : 0;
        }

        private int count(int v) {
            return v >= 0 && v < words.length - COUNT ? words[v + COUNT] : 0;
        }

        private int size(int v) {
            return v >= 0 && v < words.length - SIZE ? words[v + SIZE] : 0;
        }

        private int depth(int v) {
            return v >= 0 && v < words.length - DEPTH ? words[v + DEPTH] : 0;
        }

        private int wide(int v, int k) {
            if (v < 0 || v >= words.length || k < 0 || k >= words[v]) return 1;
            int p = v + WIDE + k;
            return p < words.length ? words[p] : 1;
        }

        /** The first number of item i: n of n / d, a SIGN's byte, the handle of what is in a BOX. */
        private int num(int v, int i) {
            int p = v >= 0 && v < words.length ? v + WIDE + words[v] + 2 * i : NONE;
            return p >= 0 && p < words.length ? words[p] : 0;
        }

        /** The second one: d of n / d, SIGN, BOX. */
        private int den(int v, int i) {
            int p = v >= 0 && v < words.length ? v + WIDE + words[v] + 2 * i + 1 : NONE;
            return p >= 0 && p < words.length ? words[p] : 0;
        }

        private void putItem(int v, int i, int n, int d) {
            if (v < FIRST || v >= words.length || i < 0) return;
            int p = v + WIDE + words[v] + 2 * i;
            if (p < FIRST || p >= words.length - 1) return;
            words[p] = n;
            words[p + 1] = d;
        }

        private void copyItem(int from, int i, int to, int j) {
            putItem(to, j, num(from, i), den(from, i));
        }

        private boolean isValue(int h) {
            return h >= FIRST && look(h) >= 0;
        }

        private int node(int head, int a, int b, int c) {
            int h = grab(NODE_WORDS);
            put(h, head);
            put(h + 1, a);
            put(h + 2, b);
            put(h + 3, c);
            return h;
        }

        /** How many items a value of the extents in shape has; -1 with LIMIT. */
        private int room(int rank) {
            if (rank > RANKS) return state.refuse(LIMIT);
            long product = 1;
            for (int k = 0; k < rank; k++) {
                int e = peek(shape, k);
                if (e < 0 || e > MOST) return state.refuse(LIMIT);
                product *= e;
            }
            return product > MOST ? state.refuse(LIMIT) : (int) product;
        }

        /** A value of the extents in shape, all items 0 as yet; 0 with LIMIT. */
        private int make(int rank) {
            int n = room(rank);
            return n < 0 ? 0 : lay(rank, n);
        }

        private int lay(int rank, int count) {
            int items = Math.max(1, count);
            int h = grab(WIDE + rank + 2 * items);
            if (h == 0) return 0;
            put(h, rank);
            put(h + COUNT, count);
            put(h + SIZE, 0);
            put(h + DEPTH, 0);
            for (int k = 0; k < rank; k++) put(h + WIDE + k, peek(shape, k));
            for (int i = 0; i < 2 * items; i++) put(h + WIDE + rank + i, i & 1);
            return h;
        }

        private int like(int v) {
            copyShape(v);
            return lay(rank(v), count(v));
        }

        private void copyShape(int v) {
            for (int k = 0; k < rank(v); k++) poke(shape, k, wide(v, k));
        }

        private int vector(int n) {
            if (n < 0 || n > MOST) return state.raise(LIMIT);
            shape[0] = n;
            return lay(1, n);
        }

        /** A value of RANK 0 that needs no counting: of a NUMBER or a SIGN. */
        private int scalar(int n, int d) {
            int v = lay(0, 1);
            putItem(v, 0, n, d);
            put(v + SIZE, 1);
            return v;
        }

        private int enclosed(int w) {
            if (rank(w) == 0 && den(w, 0) != BOX) return w;
            int v = lay(0, 1);
            putItem(v, 0, w, BOX);
            return seal(v);
        }

        private void putBoxed(int v, int i, int w) {
            if (rank(w) == 0 && den(w, 0) != BOX) copyItem(w, 0, v, i);
            else putItem(v, i, w, BOX);
        }

        /** Item i, or the FILL of an EMPTY value (i = 0), OPENED. */
        private int opened(int v, int i) {
            int d = den(v, i);
            if (d == BOX) return num(v, i);
            return rank(v) == 0 ? v : scalar(num(v, i), d);
        }

        /** What every value gets when its items stand: SIZE and DEPTH, or LIMIT and 0. */
        private int seal(int v) {
            if (v == 0 || state.event != 0) return 0;
            int items = Math.max(1, count(v));
            int size = count(v);
            int depth = 0;
            boolean simple = rank(v) == 0;
            for (int i = 0; i < items; i++) {
                if (den(v, i) != BOX) continue;
                simple = false;
                int inside = num(v, i);
                size += size(inside);
                if (count(v) == 0) size++;
                depth = Math.max(depth, depth(inside));
            }
            if (!simple) depth++;
            if (size > MOST || depth > DEPTHS) return state.raise(LIMIT);
            put(v + SIZE, size);
            put(v + DEPTH, depth);
            return v;
        }

        /** Likewise; if it is EMPTY its FILL is that of w. */
        private int sealWith(int v, int w) {
            if (v != 0 && count(v) == 0) {
                findFill(w, 0);
                putItem(v, 0, fillN, fillD);
            }
            return seal(v);
        }

        /** The FILL of item i, of an EMPTY value its own, into fillN and fillD; it goes as deep as the DEPTH. */
        private void findFill(int v, int i) {
            int n = num(v, i);
            int d = den(v, i);
            if (count(v) > 0 && d == BOX) n = blanked(n);
            if (count(v) > 0 && d != BOX) n = d == SIGN ? ' ' : 0;
            fillN = n;
            fillD = d > 0 ? 1 : d;
        }

        /** A copy of a value, its items FILLS; an EMPTY one itself. */
        private int blanked(int v) {
            if (count(v) == 0) return v;
            int length = WIDE + rank(v) + 2 * count(v);
            int r = grab(length);
            if (r == 0) return 0;
            for (int k = 0; k < length; k++) put(r + k, look(v + k));
            for (int i = 0; i < count(v); i++) {
                findFill(v, i);
                putItem(r, i, fillN, fillD);
            }
            return r;
        }

        /** A VECTOR of so many items from there on, each so far behind the one ahead; EMPTY: the FILL of w. */
        private int slice(int w, int from, int n, int stride) {
            int v = vector(n);
            for (int i = 0; i < n; i++) copyItem(w, from + i * stride, v, i);
            return sealWith(v, w);
        }

        private boolean alike(int n, int d, int n2, int d2) {
            if (d != d2) return false;
            return d == BOX ? matches(n, n2) : n == n2;
        }

        /** It goes as deep as the DEPTHS of both. Of EMPTY ones the FILLS are looked at, which lie as first items. */
        private boolean matches(int v, int w) {
            if (v == w) return true;
            if (!sameExtents(v, w)) return false;
            int items = Math.max(1, count(v));
            for (int i = 0; i < items; i++) {
                if (!alike(num(v, i), den(v, i), num(w, i), den(w, i))) return false;
            }
            return true;
        }

        private boolean sameExtents(int v, int w) {
            if (rank(v) != rank(w)) return false;
            for (int k = 0; k < rank(v); k++) {
                if (wide(v, k) != wide(w, k)) return false;
            }
            return true;
        }

        /** Below 0, 0 or above: the ORDER of two items. */
        private int order(int n, int d, int n2, int d2) {
            int kind = d > 0 ? 0 : 1 - d;
            int kind2 = d2 > 0 ? 0 : 1 - d2;
            if (kind != kind2) return Integer.compare(kind, kind2);
            if (d > 0) return Long.compare((long) n * d2, (long) n2 * d);
            return d == SIGN ? Integer.compare(n, n2) : orderInside(n, n2);
        }

        private int orderInside(int v, int w) {
            if (v == w) return 0;
            if (rank(v) != rank(w)) return Integer.compare(rank(v), rank(w));
            for (int k = 0; k < rank(v); k++) {
                if (wide(v, k) != wide(w, k)) return Integer.compare(wide(v, k), wide(w, k));
            }
            int items = Math.max(1, count(v));
            for (int i = 0; i < items; i++) {
                int c = order(num(v, i), den(v, i), num(w, i), den(w, i));
                if (c != 0) return c;
            }
            return 0;
        }

        /** How items stand beside each other: 0 one by one, 1 that of a beside each of w, 2 that of w, -1 an event. */
        private int beside(int a, int w) {
            int ra = rank(a);
            int rw = rank(w);
            if (ra == 0 && rw == 0) return 0;
            if (ra == 0) return 1;
            if (rw == 0) return 2;
            if (count(w) == 1 && (count(a) != 1 || rw <= ra)) return 2;
            if (count(a) == 1) return 1;
            if (ra != rw) return state.refuse(RANK);
            return sameExtents(a, w) ? 0 : state.refuse(LENGTH);
        }

        /** Whether all items are WHOLES lo .. hi. */
        private boolean wholes(int v, int lo, int hi) {
            for (int i = 0; i < count(v); i++) {
                if (den(v, i) != 1 || num(v, i) < lo || num(v, i) > hi) return false;
            }
            return true;
        }

        private boolean allWholes(int v) {
            return wholes(v, -GREATEST, GREATEST);
        }

        private boolean numbers(int v) {
            for (int i = 0; i < count(v); i++) {
                if (den(v, i) < 1) return false;
            }
            return true;
        }

        /** How many items the axes behind that one have together, at least 1, as a divisor. */
        private int inner(int v, int axis) {
            long product = 1;
            for (int k = axis + 1; k < rank(v) && product <= MOST; k++) product *= wide(v, k);
            return (int) Math.max(1, product);
        }

        private int lane(int v) {
            int items = Math.max(1, count(v));
            int greatest = 0;
            boolean signs = false;
            for (int i = 0; i < items; i++) {
                int d = den(v, i);
                if (d == BOX) return 8;
                if (d == SIGN) signs = true;
                else greatest = Math.max(greatest, laneOf(num(v, i), d));
            }
            if (!signs) return greatest;
            return greatest == 0 ? 6 : 7;
        }

        private int laneOf(int n, int d) {
            if (d != 1) return 5;
            if (n == 0 || n == 1) return 1;
            if (n >= -128 && n <= 127) return 2;
            return n >= -32768 && n <= 32767 ? 3 : 4;
        }

        /** From now on, till settle, what was made from there on is moved, or lost. */
        private void unsettle(int from) {
            base = Math.max(FIRST, from);
            spareTop = 0;
        }

        /** Copies a value, and what is in its boxes, into the spare row, each once; the handle that it will have. */
        private int moved(int v) {
            if (v < base) return v;
            if (look(v) == MOVED) return look(v + 1);
            int items = Math.max(1, count(v));
            int first = WIDE + rank(v);
            int length = first + 2 * items;
            int at = spareTop;
            if (length < 0 || v > words.length - length) return 0;
            if (at + length > spare.length) spare = Arrays.copyOf(spare, Math.max(at + length, 4 * spare.length));
            System.arraycopy(words, v, spare, at, length);
            spareTop += length;
            put(v, MOVED);
            put(v + 1, base + at);
            for (int i = 0; i < items; i++) {
                int p = at + first + 2 * i;
                if (peek(spare, p + 1) != BOX) continue;
                // this may make the spare row anew, so it comes ahead of it
                int inside = moved(peek(spare, p));
                poke(spare, p, inside);
            }
            return base + at;
        }

        /** Of what was made from base on, what was moved is all there is. */
        private void settle() {
            if (spareTop > spare.length || spareTop > words.length - base) return;
            System.arraycopy(spare, 0, words, base, spareTop);
            top = base + spareTop;
        }
    }

    /** The bytes and TOKENS of all texts of a run, one text behind the other; what follows are places of TOKENS. */
    private static final class Text {
        private static final int STRIDE = 6;
        private static final int A = 1;
        private static final int B = 2;
        private static final int PARTNER = 3;
        private static final int START = 4;
        private static final int END = 5;

        private final byte[] kept = new byte[TEXT_LIMIT];
        private byte[] bytes = new byte[1024];
        private int[] tokens = new int[1024];
        private int length;
        private int count;
        private int keptLength;
        private int innermost;
        /** The QUOTED whose value was made last; its B tells the one ahead of it. */
        private int lastMade = NONE;

        private void add(int c) {
            if (length >= bytes.length) bytes = Arrays.copyOf(bytes, 2 * bytes.length);
            if (length >= 0 && length < bytes.length) bytes[length++] = (byte) c;
        }

        private int byteOf(int i) {
            return i >= 0 && i < length && i < bytes.length ? bytes[i] & 255 : 0;
        }

        private int field(int token, int which) {
            int p = token * STRIDE + which;
            return token < 0 || token >= count || p >= tokens.length ? 0 : tokens[p];
        }

        private void putField(int token, int which, int x) {
            if (token >= 0 && token < count) poke(tokens, token * STRIDE + which, x);
        }

        private int type(int token) {
            return field(token, 0);
        }

        private int partner(int token) {
            return field(token, PARTNER);
        }

        /** The TOKEN's end, for the caller to go on from. */
        private int token(int type, int a, int b, int start, int end) {
            int p = count * STRIDE;
            if (p + STRIDE > tokens.length) tokens = Arrays.copyOf(tokens, 2 * tokens.length);
            count++;
            poke(tokens, p, type);
            poke(tokens, p + A, a);
            poke(tokens, p + B, b);
            poke(tokens, p + PARTNER, NONE);
            poke(tokens, p + START, start);
            poke(tokens, p + END, end);
            return end;
        }

        /** Makes TOKENS of the bytes from there on: the place of the FAULT; NONE. */
        private int scan(int from) {
            innermost = NONE;
            int i = from;
            while (i < length) {
                int c = byteOf(i);
                int next;
                if (c == ' ') next = i + 1;
                else if (c == '#') next = lineEnd(i);
                else if (isDigit(c) || c == '_') next = scanNumber(i);
                else if (isLetter(c)) next = scanName(i);
                else if (c == '\'') next = scanQuoted(i);
                else next = scanSign(i);
                if (next <= i) return i;
                i = next;
            }
            return innermost == NONE ? NONE : field(innermost, START);
        }

        private int lineEnd(int i) {
            int p = i;
            while (p < length && byteOf(p) != '\n') p++;
            return p;
        }

        private int digitsEnd(int i) {
            int p = i;
            while (p < length && isDigit(byteOf(p))) p++;
            return p;
        }

        private int scanNumber(int i) {
            boolean minus = byteOf(i) == '_';
            int p = minus ? i + 1 : i;
            int e = digitsEnd(p);
            if (e == p || e - p > 10) return NONE;
            long n = digits(p, e);
            long d = 1;
            if (byteOf(e) == 'r' && isDigit(byteOf(e + 1))) {
                p = e + 1;
                e = digitsEnd(p);
                if (e - p > 10) return NONE;
                d = digits(p, e);
            }
            if (n > GREATEST || d > GREATEST || d < 1) return NONE;
            long g = Math.max(1, gcd(n, d));
            return token(A_NUMBER, (int) ((minus ? -n : n) / g), (int) (d / g), i, e);
        }

        private long digits(int from, int end) {
            long x = 0;
            for (int i = from; i < end; i++) x = 10 * x + byteOf(i) - '0';
            return x;
        }

        private int scanName(int i) {
            int e = i;
            while (e < length && (isLetter(byteOf(e)) || isDigit(byteOf(e)))) e++;
            if (e - i > 8) return NONE;
            for (int w = 0; w < WORD_COUNT; w++) {
                if (isWord(w, i, e)) return token(wordType(w), 0, 0, i, e);
            }
            return token(A_NAME, packed(bytes, i, e), packed(bytes, i + 4, e), i, e);
        }

        private boolean isWord(int w, int start, int end) {
            for (int k = 0; k < 8; k++) {
                int c = start + k < end ? byteOf(start + k) : ' ';
                int p = 8 * w + k;
                if (p >= WORDS.length() || WORDS.charAt(p) != c) return false;
            }
            return true;
        }

        private int wordType(int w) {
            if (w < FUNCTION_WORDS) return FLOOR + w;
            int k = w - FUNCTION_WORDS;
            return k < OPERATOR_WORDS ? KEY + k : LEFT + k - OPERATOR_WORDS;
        }

        private int scanQuoted(int i) {
            int p = i + 1;
            while (p < length) {
                int c = byteOf(p);
                if (c < 32 || c > 126) return NONE;
                if (c != '\'') p++;
                else if (byteOf(p + 1) == '\'') p += 2;
                else return token(A_QUOTED, 0, 0, i, p + 1);
            }
            return NONE;
        }

        private int scanSign(int i) {
            int c = byteOf(i);
            int next = byteOf(i + 1);
            if (c == ':') return scanColon(i, next);
            if (c == '/') return next == '=' ? token(DIFFER, 0, 0, i, i + 2) : token(SLASH, 0, 0, i, i + 1);
            if (c == '<') return next == '=' ? token(LESS_EQUAL, 0, 0, i, i + 2) : token(LESS, 0, 0, i, i + 1);
            if (c == '>') return next == '=' ? token(MORE_EQUAL, 0, 0, i, i + 2) : token(MORE, 0, 0, i, i + 1);
            int k = FUNCTION_SIGNS.indexOf((char) c);
            if (k >= 0) return token(PLUS + k, 0, 0, i, i + 1);
            k = OPERATOR_SIGNS.indexOf((char) c);
            if (k >= 0) return token(BACKSLASH + k, 0, 0, i, i + 1);
            k = BRACKETS.indexOf((char) c);
            return k >= 0 ? scanBracket(PAREN + k, i) : NONE;
        }

        /** A ( ) [ ] { } ; or byte 10. An opener's partner is the opener around it till its closer comes. */
        private int scanBracket(int type, int i) {
            int around = type(innermost);
            if (type == SEMICOLON || type == NEWLINE) {
                if (around == PAREN || around == BRACKET && type == NEWLINE) return NONE;
                if (around == CURLY) putField(innermost, A, 0);
                return token(type, 0, 0, i, i + 1);
            }
            boolean opener = type == PAREN || type == BRACKET || type == CURLY;
            if (!opener && around != type - 1) return NONE;
            int here = count;
            token(type, 0, 0, i, i + 1);
            putField(here, PARTNER, innermost);
            if (opener) {
                innermost = here;
                return i + 1;
            }
            int outer = partner(innermost);
            putField(innermost, PARTNER, here);
            innermost = outer;
            return i + 1;
        }

        /** A { } holds in A whether its STATEMENT has a : or :: already. */
        private int scanColon(int i, int next) {
            if (next == '=') return token(ASSIGN, 0, 0, i, i + 2);
            if (type(innermost) != CURLY || field(innermost, A) != 0) return NONE;
            putField(innermost, A, 1);
            return next == ':' ? token(GUARD, 0, 0, i, i + 2) : token(COLON, 0, 0, i, i + 1);
        }

        /** The place of the first ; or byte 10 from lo on that is in no bracket; hi. */
        private int statementEnd(int lo, int hi) {
            return firstOf(SEMICOLON, NEWLINE, lo, hi);
        }

        /** The place of the : or :: of a STATEMENT; hi. */
        private int colonIn(int lo, int hi) {
            return firstOf(COLON, GUARD, lo, hi);
        }

        private int firstOf(int type, int other, int lo, int hi) {
            for (int i = lo; i < hi; i++) {
                int t = type(i);
                if (t == type || t == other) return i;
                if (t == PAREN || t == BRACKET || t == CURLY) i = Math.max(i, partner(i));
            }
            return hi;
        }

        /** Where the last one of the INDICES between lo and hi begins. */
        private int lastIndex(int lo, int hi) {
            for (int i = hi - 1; i >= lo; i--) {
                int t = type(i);
                if (t == SEMICOLON) return i + 1;
                if (t == END_PAREN || t == END_BRACKET || t == END_CURLY) i = Math.min(i, partner(i));
            }
            return lo;
        }

        private boolean allNames(int lo, int hi) {
            for (int i = lo; i < hi; i++) {
                if (type(i) != A_NAME) return false;
            }
            return true;
        }

        /** A QUOTED has its value in A once it was made, so that it is made once however often it is met. */
        private void made(int token, int value) {
            putField(token, A, value);
            putField(token, B, lastMade);
            lastMade = token;
        }

        /** The values of QUOTED that were made from base on are lost: they lie in the order of their making. */
        private void unmake(int base) {
            for (int turns = count; turns > 0 && lastMade >= 0 && field(lastMade, A) >= base; turns--) {
                int before = field(lastMade, B);
                putField(lastMade, A, 0);
                lastMade = before;
            }
        }

        /** How many bytes the TOKENS from..to take up in their text. */
        private int span(int from, int to) {
            return field(to - 1, END) - field(from, START);
        }

        /** Puts their bytes aside: how many. */
        private int keep(int from, int to) {
            int start = field(from, START);
            int n = span(from, to);
            for (int i = 0; i < n; i++) {
                if (keptLength < kept.length) kept[keptLength++] = (byte) byteOf(start + i);
            }
            return n;
        }

        /** Makes a text of bytes put aside. */
        private void restore(int from, int n) {
            int start = length;
            for (int i = from; i < from + n && i < kept.length; i++) add(i < 0 ? 0 : kept[i]);
            scan(start);
        }
    }

    /** NAMES and what they mean, in the HOUSE (place 0) and in each CALL that is open: all else is lost in the end. */
    private static final class Places {
        private static final int SLOTS = HOUSE_NAMES + OPEN_LIMIT * CALL_NAMES;
        private static final int GUARD_WORDS = 3;
        /** So many words may lie about, besides some for each part of what is kept, till they are used again. */
        private static final int SLACK = 64;
        private static final int SLACK_EACH = 4;

        private final State state;
        private final Heap heap;
        private final Text text;
        private final int[] nameA = new int[SLOTS];
        private final int[] nameB = new int[SLOTS];
        private final int[] means = new int[SLOTS];
        private final int[] from = new int[SLOTS];
        private final int[] to = new int[SLOTS];
        private final int[] used = new int[OPEN_LIMIT + 1];
        private final int[] around = new int[OPEN_LIMIT + 1];
        private final int[] left = new int[OPEN_LIMIT + 1];
        private final int[] right = new int[OPEN_LIMIT + 1];
        private final int[] self = new int[OPEN_LIMIT + 1];
        /** GUARDS of all CALLS that are open, those of the latest one last: their EVENTS in bits, from..to of p. */
        private int[] guards = new int[GUARD_WORDS * OPEN_LIMIT];
        private int guardCount;
        private int deepest;

        private Places(State state, Heap heap, Text text) {
            this.state = state;
            this.heap = heap;
            this.text = text;
        }

        private int meansAt(int slot) {
            return peek(means, slot);
        }

        private int firstSlot(int place) {
            return place == 0 ? 0 : HOUSE_NAMES + (place - 1) * CALL_NAMES;
        }

        private int placeOf(int slot) {
            return slot < HOUSE_NAMES ? 0 : 1 + (slot - HOUSE_NAMES) / CALL_NAMES;
        }

        /** The slot of a NAME that means something in that place; NONE. */
        private int slotIn(int place, int a, int b) {
            int first = firstSlot(place);
            for (int s = first; s < first + peek(used, place); s++) {
                if (peek(means, s) != 0 && peek(nameA, s) == a && peek(nameB, s) == b) return s;
            }
            return NONE;
        }

        /** Likewise, also in the places around it. */
        private int lookFor(int place, int a, int b) {
            int p = place;
            for (int turns = 0; turns <= OPEN_LIMIT; turns++) {
                int slot = slotIn(p, a, b);
                if (slot >= 0 || p <= 0) return slot;
                p = peek(around, p);
            }
            return NONE;
        }

        /** The slot in which a NAME is to mean something in that place; NONE if there is no room. */
        private int slotFor(int place, int a, int b) {
            int slot = slotIn(place, a, b);
            if (slot >= 0) return slot;
            int first = firstSlot(place);
            int end = first + peek(used, place);
            slot = first;
            while (slot < end && meansAt(slot) != 0) slot++;
            if (slot == end) {
                if (end - first >= (place == 0 ? HOUSE_NAMES : CALL_NAMES)) return NONE;
                poke(used, place, end - first + 1);
            }
            poke(nameA, slot, a);
            poke(nameB, slot, b);
            poke(means, slot, 0);
            return slot;
        }

        private void mean(int slot, int what, int a, int b) {
            poke(means, slot, what);
            poke(from, slot, a);
            poke(to, slot, b);
        }

        /** The place of a new CALL; NONE beyond those that can be open. */
        private int begin(int outer, int a, int w, int f) {
            if (deepest >= OPEN_LIMIT) return NONE;
            int place = ++deepest;
            poke(used, place, 0);
            poke(around, place, outer);
            poke(left, place, a);
            poke(right, place, w);
            poke(self, place, f);
            return place;
        }

        private void addGuard(int events, int lo, int hi) {
            int p = GUARD_WORDS * guardCount;
            if (p + GUARD_WORDS > guards.length) guards = Arrays.copyOf(guards, 2 * guards.length);
            guardCount++;
            poke(guards, p, events);
            poke(guards, p + 1, lo);
            poke(guards, p + 2, hi);
        }

        private int guardField(int guard, int which) {
            return peek(guards, GUARD_WORDS * guard + which);
        }

        /**
         * Of what was made from base on, only the value (0 for none) and what NAMES mean are needed any more: the
         * value's handle from now on. What was made ahead of base must not hold anything that was made behind it.
         */
        private int keep(int base, int value) {
            if (state.event != 0 || heap.top - base < SLACK + SLACK_EACH * heap.size(value)) return value;
            return pack(base, value);
        }

        /** Likewise, however little there is. */
        private int pack(int base, int value) {
            heap.unsettle(base);
            int kept = heap.moved(value);
            for (int p = 0; p <= deepest; p++) {
                int first = firstSlot(p);
                int end = first + peek(used, p);
                for (int s = first; s < end; s++) {
                    if (meansAt(s) == A_VALUE) poke(from, s, heap.moved(peek(from, s)));
                }
            }
            text.unmake(base);
            heap.settle();
            return kept;
        }
    }

    /** Texts of values, as fmt has them, up to a bound. */
    private static final class Writer {
        private final Heap heap;
        private final byte[] row;
        private int length;
        private boolean over;

        private Writer(Heap heap, int bound) {
            this.heap = heap;
            row = new byte[Math.max(0, bound)];
        }

        private void add(int c) {
            if (length >= 0 && length < row.length) row[length++] = (byte) c;
            else over = true;
        }

        /** The text of a value; it goes as deep as its DEPTH. */
        private void write(int v) {
            int rank = heap.rank(v);
            if (rank > 1) {
                add('[');
                for (int k = 0; k < rank; k++) {
                    if (k > 0) add(' ');
                    addWhole(heap.wide(v, k));
                }
                add(']');
            }
            boolean apart = !allSigns(v);
            for (int i = 0; i < heap.count(v); i++) {
                if (apart && i > 0) add(' ');
                item(heap.num(v, i), heap.den(v, i));
            }
        }

        private boolean allSigns(int v) {
            for (int i = 0; i < heap.count(v); i++) {
                if (heap.den(v, i) != SIGN) return false;
            }
            return true;
        }

        private void item(int n, int d) {
            if (d == SIGN) {
                add(n);
                return;
            }
            if (d == BOX) {
                add('(');
                write(n);
                add(')');
                return;
            }
            if (n < 0) add('_');
            addWhole(Math.abs(n));
            if (d == 1) return;
            add('r');
            addWhole(d);
        }

        private void addWhole(int n) {
            int power = 1;
            for (int left = n; left > 9; left /= 10) power *= 10;
            for (; power > 0; power /= 10) add('0' + n / power % 10);
        }
    }

    /** The functions that go item by item. What comes of a NUMBER stands in n and d. */
    private static final class Scalars {
        private final State state;
        private final Heap heap;
        private int n;
        private int d;

        private Scalars(State state, Heap heap) {
            this.state = state;
            this.heap = heap;
        }

        /** It goes as deep as the DEPTH of w. */
        private int alone(int code, int w) {
            int r = heap.like(w);
            int size = 0;
            for (int i = 0; r != 0 && i < heap.count(w); i++) {
                int wn = heap.num(w, i);
                int wd = heap.den(w, i);
                if (wd == BOX) {
                    int inside = alone(code, wn);
                    if (inside == 0) return 0;
                    heap.putItem(r, i, inside, BOX);
                    size += heap.size(inside);
                } else {
                    if (wd == SIGN) return state.raise(DOMAIN);
                    if (!one(code, wn, wd)) return 0;
                    heap.putItem(r, i, n, d);
                }
                if (++size > MOST) return state.raise(LIMIT);
            }
            return heap.seal(r);
        }

        /** It goes as deep as the greater DEPTH of both. */
        private int beside(int code, int a, int w) {
            int mode = heap.beside(a, w);
            if (mode < 0) return 0;
            int r = heap.like(mode == 1 ? w : a);
            int size = 0;
            for (int i = 0; r != 0 && i < heap.count(r); i++) {
                int ia = mode == 1 ? 0 : i;
                int iw = mode == 2 ? 0 : i;
                int ad = heap.den(a, ia);
                int wd = heap.den(w, iw);
                if (ad == BOX || wd == BOX) {
                    int inside = beside(code, heap.opened(a, ia), heap.opened(w, iw));
                    if (inside == 0) return 0;
                    heap.putItem(r, i, inside, BOX);
                    size += heap.size(inside);
                } else {
                    if (!two(code, heap.num(a, ia), ad, heap.num(w, iw), wd)) return 0;
                    heap.putItem(r, i, n, d);
                }
                if (++size > MOST) return state.raise(LIMIT);
            }
            return heap.seal(r);
        }

        private boolean whole(int x) {
            n = x;
            d = 1;
            return true;
        }

        /** x / y, y not 0, in lowest terms; LIMIT. */
        private boolean settle(long x, long y) {
            long g = gcd(x, y);
            if (g == 0) return state.fail(DOMAIN);
            long above = (y < 0 ? -x : x) / g;
            long below = Math.abs(y) / g;
            if (Math.abs(above) > GREATEST || below > GREATEST) return state.fail(LIMIT);
            n = (int) above;
            d = (int) below;
            return true;
        }

        private boolean one(int code, int wn, int wd) {
            switch (code) {
                case PLUS: return settle(wn, wd);
                case MINUS: return settle(-wn, wd);
                case TIMES: return whole(Integer.compare(wn, 0));
                case OVER: return wn == 0 ? state.fail(DOMAIN) : settle(wd, wn);
                case RESIDUE: return settle(Math.abs(wn), wd);
                case BANG: return factorial(wn, wd);
                case FLOOR: return whole((int) below(wn, wd));
                case CEIL: return whole((int) -below(-wn, wd));
                case NOT: return isBit(wn, wd) ? whole(1 - wn) : state.fail(DOMAIN);
                case ROLL: return roll(wn, wd);
                default: return state.fail(SYNTAX);
            }
        }

        private long below(long x, long y) {
            return y == 0 ? 0 : Math.floorDiv(x, y);
        }

        private boolean roll(int wn, int wd) {
            if (wd != 1 || wn < 1) return state.fail(DOMAIN);
            return settle((long) state.roll(wn) + state.origin, 1);
        }

        private boolean factorial(int wn, int wd) {
            if (wd != 1 || wn < 0) return state.fail(DOMAIN);
            long x = 1;
            for (int i = 2; i <= wn; i++) {
                x *= i;
                if (x > GREATEST) return state.fail(LIMIT);
            }
            return settle(x, 1);
        }

        private boolean isBit(long x, long y) {
            return y == 1 && (x == 0 || x == 1);
        }

        /** All products here are at most 4e18, sums of two 8e18: a long holds them. */
        private boolean two(int code, long an, long ad, long wn, long wd) {
            boolean same = an == wn && ad == wd;
            if (code == EQUAL) return whole(same ? 1 : 0);
            if (code == DIFFER) return whole(same ? 0 : 1);
            if (ad < 1 || wd < 1) return state.fail(DOMAIN);
            int order = Long.compare(an * wd, wn * ad);
            switch (code) {
                case PLUS: return settle(an * wd + wn * ad, ad * wd);
                case MINUS: return settle(an * wd - wn * ad, ad * wd);
                case TIMES: return settle(an * wn, ad * wd);
                case OVER: return divide(an, ad, wn, wd);
                case POWER: return power(an, ad, wn, wd);
                case RESIDUE: return residue(an, ad, wn, wd);
                case MIN: return order <= 0 ? settle(an, ad) : settle(wn, wd);
                case MAX: return order >= 0 ? settle(an, ad) : settle(wn, wd);
                case LESS: return whole(order < 0 ? 1 : 0);
                case LESS_EQUAL: return whole(order <= 0 ? 1 : 0);
                case MORE: return whole(order > 0 ? 1 : 0);
                case MORE_EQUAL: return whole(order >= 0 ? 1 : 0);
                case BANG: return choices(an, ad, wn, wd);
                case AND: return isBit(an, ad) && isBit(wn, wd) ? whole((int) (an & wn)) : state.fail(DOMAIN);
                case OR: return isBit(an, ad) && isBit(wn, wd) ? whole((int) (an | wn)) : state.fail(DOMAIN);
                default: break;
            }
            if (ad != 1 || wd != 1) return state.fail(DOMAIN);
            long g = gcd(an, wn);
            if (code == GCD) return settle(g, 1);
            return g == 0 || an == 0 || wn == 0 ? whole(0) : settle(Math.abs(an * wn), g);
        }

        private boolean divide(long an, long ad, long wn, long wd) {
            if (wn == 0) return an == 0 ? whole(1) : state.fail(DOMAIN);
            return settle(an * wd, ad * wn);
        }

        /** It stays in lowest terms, so what grows beyond the bounds never comes back. */
        private boolean power(long an, long ad, long wn, long wd) {
            if (wd != 1) return state.fail(DOMAIN);
            if (wn == 0) return whole(1);
            if (an == 0) return wn < 0 ? state.fail(DOMAIN) : whole(0);
            long times = Math.abs(wn);
            if (ad == 1 && Math.abs(an) == 1) return whole(an < 0 && times % 2 == 1 ? -1 : 1);
            long x = 1;
            long y = 1;
            for (long i = 0; i < times; i++) {
                x *= an;
                y *= ad;
                if (Math.abs(x) > GREATEST || y > GREATEST) return state.fail(LIMIT);
            }
            return wn < 0 ? settle(y, x) : settle(x, y);
        }

        private boolean residue(long an, long ad, long wn, long wd) {
            long step = an * wd;
            if (step == 0) return settle(wn, wd);
            return settle(Math.floorMod(wn * ad, step), wd * ad);
        }

        /** Each product is a number of choices, too: those only grow, and soon pass the bound. */
        private boolean choices(long a, long ad, long w, long wd) {
            if (ad != 1 || wd != 1 || a < 0 || w < 0) return state.fail(DOMAIN);
            if (a > w) return whole(0);
            long times = Math.min(a, w - a);
            long x = 1;
            for (long i = 1; i <= times; i++) {
                x = x * (w - times + i) / i;
                if (x > GREATEST) return state.fail(LIMIT);
            }
            return settle(x, 1);
        }
    }

    /** The functions that shape, join, turn and cut values. */
    private static final class Shapes {
        private final State state;
        private final Heap heap;
        private final int[] rows = new int[MOST];
        private final int[] turn = new int[RANKS];
        private final int[] place = new int[RANKS];

        private Shapes(State state, Heap heap) {
            this.state = state;
            this.heap = heap;
        }

        /** The axis of so many that is meant, from 0 on; below 0 with an event, or if there is none. */
        private int axisOf(int axis, int rank) {
            if (axis == 0) return rank - 1;
            if (heap.count(axis) != 1) return state.refuse(LENGTH);
            if (heap.den(axis, 0) != 1) return state.refuse(DOMAIN);
            int k = heap.num(axis, 0) - state.origin;
            return k < 0 || k >= rank ? state.refuse(INDEX) : k;
        }

        private int extents(int w) {
            int r = heap.vector(heap.rank(w));
            for (int k = 0; k < heap.rank(w); k++) heap.putItem(r, k, heap.wide(w, k), 1);
            return heap.seal(r);
        }

        private int reshape(int a, int w) {
            if (heap.rank(a) > 1) return state.raise(RANK);
            if (!heap.wholes(a, 0, GREATEST)) return state.raise(DOMAIN);
            int rank = heap.count(a);
            for (int k = 0; k < rank; k++) poke(heap.shape, k, heap.num(a, k));
            int r = heap.make(rank);
            if (r == 0) return 0;
            heap.findFill(w, 0);
            for (int i = 0; i < heap.count(r); i++) {
                if (heap.count(w) > 0) heap.copyItem(w, i % heap.count(w), r, i);
                else heap.putItem(r, i, heap.fillN, heap.fillD);
            }
            return heap.sealWith(r, w);
        }

        private int mix(int w) {
            int rank = heap.rank(w);
            int more = greatestRank(w);
            heap.copyShape(w);
            for (int k = 0; k < more; k++) poke(heap.shape, rank + k, 0);
            for (int i = 0; i < Math.max(1, heap.count(w)); i++) widen(w, i, rank, more);
            int r = heap.make(rank + more);
            if (r == 0) return 0;
            if (heap.count(r) == 0) {
                findInside(w, 0);
                heap.putItem(r, 0, heap.fillN, heap.fillD);
                return heap.seal(r);
            }
            int room = heap.inner(r, rank - 1);
            for (int i = 0; i < heap.count(w); i++) {
                findInside(w, i);
                lodge(w, i, r, more, room);
            }
            return heap.seal(r);
        }

        private int greatestRank(int w) {
            int most = 0;
            for (int i = 0; i < Math.max(1, heap.count(w)); i++) {
                if (heap.den(w, i) == BOX) most = Math.max(most, heap.rank(heap.num(w, i)));
            }
            return most;
        }

        /** The greatest extents of what is in the items so far, the last axes below each other. */
        private void widen(int w, int i, int rank, int more) {
            boolean box = heap.den(w, i) == BOX;
            int v = heap.num(w, i);
            int first = more - (box ? heap.rank(v) : 0);
            for (int k = 0; k < more; k++) {
                int e = k < first ? 1 : heap.wide(v, k - first);
                poke(heap.shape, rank + k, Math.max(e, peek(heap.shape, rank + k)));
            }
        }

        /** The FILL of item i OPENED (of an EMPTY value's FILL, i = 0). */
        private void findInside(int w, int i) {
            if (heap.den(w, i) == BOX) {
                heap.findFill(heap.num(w, i), 0);
                return;
            }
            heap.fillD = heap.den(w, i) == SIGN ? SIGN : 1;
            heap.fillN = heap.fillD == SIGN ? ' ' : 0;
        }

        /** Item i, OPENED, at the lowest places of its room in r, FILLS at the others. */
        private void lodge(int w, int i, int r, int more, int room) {
            boolean box = heap.den(w, i) == BOX;
            int v = heap.num(w, i);
            int first = more - (box ? heap.rank(v) : 0);
            int rank = heap.rank(r) - more;
            for (int c = 0; c < room; c++) {
                int rest = c;
                int from = 0;
                int stride = 1;
                for (int k = more - 1; k >= 0 && from >= 0; k--) {
                    int e = Math.max(1, heap.wide(r, rank + k));
                    int limit = k < first ? 1 : heap.wide(v, k - first);
                    from = rest % e < limit ? from + rest % e * stride : NONE;
                    stride *= limit;
                    rest /= e;
                }
                if (from < 0) heap.putItem(r, i * room + c, heap.fillN, heap.fillD);
                else if (box) heap.copyItem(v, from, r, i * room + c);
                else heap.copyItem(w, i, r, i * room + c);
            }
        }

        private int split(int w) {
            if (heap.rank(w) == 0) return w;
            int last = heap.rank(w) - 1;
            int e = heap.wide(w, last);
            heap.copyShape(w);
            int r = heap.make(last);
            if (r == 0) return 0;
            if (heap.count(r) == 0) {
                heap.putItem(r, 0, blanks(w, e), BOX);
                return heap.seal(r);
            }
            for (int i = 0; i < heap.count(r); i++) heap.putItem(r, i, heap.slice(w, i * e, e, 1), BOX);
            return heap.seal(r);
        }

        /** A VECTOR of so many times the FILL of w. */
        private int blanks(int w, int n) {
            heap.findFill(w, 0);
            int v = heap.vector(n);
            for (int i = 0; i < Math.max(1, n); i++) heap.putItem(v, i, heap.fillN, heap.fillD);
            return heap.seal(v);
        }

        private int enlist(int w) {
            int r = heap.vector(leaves(w));
            pour(w, r, 0);
            return heap.seal(r);
        }

        /** It goes as deep as the DEPTH of w, as pour does. */
        private int leaves(int w) {
            int n = 0;
            for (int i = 0; i < heap.count(w); i++) n += heap.den(w, i) == BOX ? leaves(heap.num(w, i)) : 1;
            return n;
        }

        private int pour(int w, int r, int first) {
            int at = first;
            for (int i = 0; i < heap.count(w); i++) {
                if (heap.den(w, i) == BOX) at = pour(heap.num(w, i), r, at);
                else heap.copyItem(w, i, r, at++);
            }
            return at;
        }

        private int reverse(int axis, int w) {
            int k = axisOf(axis, heap.rank(w));
            if (state.event != 0) return 0;
            if (k < 0) return w;
            int r = heap.like(w);
            int inner = heap.inner(w, k);
            int e = Math.max(1, heap.wide(w, k));
            for (int t = 0; t < heap.count(w); t++) {
                int p = t / inner % e;
                heap.copyItem(w, t + (e - 1 - 2 * p) * inner, r, t);
            }
            return heap.sealWith(r, w);
        }

        private int rotate(int axis, int a, int w) {
            int k = axisOf(axis, heap.rank(w));
            if (state.event != 0) return 0;
            boolean single = heap.rank(a) == 0;
            if (!single && heap.rank(a) != heap.rank(w) - 1) return state.raise(RANK);
            for (int j = 0; j < heap.rank(a); j++) {
                if (heap.wide(a, j) != heap.wide(w, j < k ? j : j + 1)) return state.raise(LENGTH);
            }
            if (!heap.allWholes(a)) return state.raise(DOMAIN);
            if (k < 0) return w;
            int r = heap.like(w);
            int inner = heap.inner(w, k);
            int e = Math.max(1, heap.wide(w, k));
            for (int t = 0; t < heap.count(w); t++) {
                int outer = t / inner / e;
                int p = t / inner % e;
                int by = heap.num(a, single ? 0 : outer * inner + t % inner);
                int from = (int) Math.floorMod((long) p + by, (long) e);
                heap.copyItem(w, t + (from - p) * inner, r, t);
            }
            return heap.sealWith(r, w);
        }

        private int transpose(int w) {
            int rank = heap.rank(w);
            for (int k = 0; k < rank; k++) poke(turn, k, rank - 1 - k);
            return turned(w, rank);
        }

        private int transposeBy(int a, int w) {
            int rank = heap.rank(w);
            if (heap.rank(a) > 1) return state.raise(RANK);
            if (heap.count(a) != rank) return state.raise(LENGTH);
            if (!heap.allWholes(a)) return state.raise(DOMAIN);
            int more = 0;
            for (int k = 0; k < rank; k++) {
                int axis = heap.num(a, k) - state.origin;
                if (axis < 0 || axis >= rank) return state.raise(INDEX);
                poke(turn, k, axis);
                more = Math.max(more, axis + 1);
            }
            for (int j = 0; j < more; j++) {
                boolean there = false;
                for (int k = 0; k < rank; k++) there = there || peek(turn, k) == j;
                if (!there) return state.raise(INDEX);
            }
            return turned(w, more);
        }

        /** Axis k of w becomes axis turn[k] of so many. */
        private int turned(int w, int more) {
            for (int j = 0; j < more; j++) poke(heap.shape, j, MOST);
            for (int k = 0; k < heap.rank(w); k++) {
                int j = peek(turn, k);
                poke(heap.shape, j, Math.min(peek(heap.shape, j), heap.wide(w, k)));
            }
            int r = heap.make(more);
            if (r == 0) return 0;
            for (int t = 0; t < heap.count(r); t++) {
                findPlace(r, t);
                int from = 0;
                for (int k = 0; k < heap.rank(w); k++) from = from * heap.wide(w, k) + peek(place, peek(turn, k));
                heap.copyItem(w, from, r, t);
            }
            return heap.sealWith(r, w);
        }

        /** Where item t stands along each axis. */
        private void findPlace(int v, int t) {
            int rest = t;
            for (int k = heap.rank(v) - 1; k >= 0; k--) {
                int e = Math.max(1, heap.wide(v, k));
                poke(place, k, rest % e);
                rest /= e;
            }
        }

        /** take, or drop. */
        private int cut(int a, int w, boolean keep) {
            if (heap.rank(a) > 1) return state.raise(RANK);
            int n = heap.count(a);
            int rank = heap.rank(w) == 0 ? n : heap.rank(w);
            if (n > rank) return state.raise(LENGTH);
            if (!heap.allWholes(a)) return state.raise(DOMAIN);
            if (rank > RANKS) return state.raise(LIMIT);
            for (int k = 0; k < rank; k++) {
                int by = k < n ? heap.num(a, k) : keep ? heap.wide(w, k) : 0;
                int e = heap.wide(w, k);
                poke(heap.shape, k, keep ? Math.abs(by) : Math.max(0, e - Math.abs(by)));
                // where the first place of the result lies along w's axis
                poke(turn, k, keep ? (by < 0 ? e + by : 0) : Math.max(0, Math.min(by, e)));
            }
            int r = heap.make(rank);
            if (r == 0) return 0;
            heap.findFill(w, 0);
            for (int t = 0; t < heap.count(r); t++) {
                findPlace(r, t);
                int from = 0;
                for (int k = 0; k < rank && from >= 0; k++) {
                    int p = peek(place, k) + peek(turn, k);
                    from = p < 0 || p >= heap.wide(w, k) ? NONE : from * heap.wide(w, k) + p;
                }
                if (from >= 0) heap.copyItem(w, from, r, t);
                else heap.putItem(r, t, heap.fillN, heap.fillD);
            }
            return heap.sealWith(r, w);
        }

        private int replicate(int axis, int a, int w) {
            int k = axisOf(axis, heap.rank(w));
            if (state.event != 0) return 0;
            if (heap.rank(a) > 1) return state.raise(RANK);
            int e = heap.wide(w, k);
            int n = heap.count(a);
            if (n != 1 && n != e && e != 1) return state.raise(LENGTH);
            if (!heap.allWholes(a)) return state.raise(DOMAIN);
            int many = n == 1 ? e : n;
            int end = 0;
            for (int i = 0; i < many; i++) {
                int times = heap.num(a, n == 1 ? 0 : i);
                if (Math.abs(times) > MOST - end) return state.raise(LIMIT);
                int from = times < 0 ? NONE : e == 1 ? 0 : i;
                for (int j = 0; j < Math.abs(times); j++) poke(rows, end++, from);
            }
            return spread(w, Math.max(0, k), end);
        }

        private int expand(int axis, int a, int w) {
            int k = axisOf(axis, heap.rank(w));
            if (state.event != 0) return 0;
            if (heap.rank(a) > 1) return state.raise(RANK);
            if (!heap.wholes(a, 0, 1)) return state.raise(DOMAIN);
            int e = heap.wide(w, k);
            int ones = 0;
            for (int i = 0; i < heap.count(a); i++) {
                poke(rows, i, heap.num(a, i) == 0 ? NONE : e == 1 ? 0 : ones);
                ones += heap.num(a, i);
            }
            if (ones != e && e != 1) return state.raise(LENGTH);
            return spread(w, Math.max(0, k), heap.count(a));
        }

        /** The first n of rows tell the places along the axis, those below 0 FILLS. */
        private int spread(int w, int axis, int n) {
            heap.copyShape(w);
            poke(heap.shape, axis, n);
            int r = heap.make(Math.max(1, heap.rank(w)));
            if (r == 0) return 0;
            heap.findFill(w, 0);
            int inner = heap.inner(w, axis);
            int e = heap.wide(w, axis);
            for (int t = 0; t < heap.count(r); t++) {
                int from = peek(rows, t / inner % Math.max(1, n));
                int outer = t / inner / Math.max(1, n);
                if (from < 0) heap.putItem(r, t, heap.fillN, heap.fillD);
                else heap.copyItem(w, (outer * e + from) * inner + t % inner, r, t);
            }
            return heap.sealWith(r, w);
        }

        private int join(int axis, int a, int w) {
            int ra = heap.rank(a);
            int rw = heap.rank(w);
            int rank = Math.max(ra, rw);
            int k = Math.max(0, rank - 1);
            if (axis != 0) {
                if (heap.count(axis) != 1) return state.raise(LENGTH);
                int d = heap.den(axis, 0);
                if (d < 1) return state.raise(DOMAIN);
                if (d > 1) return laminate(Math.floorDiv(heap.num(axis, 0), d) - state.origin + 1, a, w);
                k = axisOf(axis, Math.max(1, rank));
                if (k < 0) return 0;
            }
            if (ra != rw && ra != 0 && rw != 0 && Math.abs(ra - rw) != 1) return state.raise(RANK);
            int big = ra == rank ? a : w;
            int ea = ra == rank ? heap.wide(a, k) : 1;
            int ew = rw == rank ? heap.wide(w, k) : 1;
            for (int j = 0; j < rank; j++) {
                if (j == k) continue;
                int e = heap.wide(big, j);
                int ofA = ra == rank ? j : j < k ? j : j - 1;
                int ofW = rw == rank ? j : j < k ? j : j - 1;
                if (ra != 0 && heap.wide(a, ofA) != e || rw != 0 && heap.wide(w, ofW) != e) return state.raise(LENGTH);
            }
            heap.copyShape(big);
            poke(heap.shape, k, ea + ew);
            int r = heap.make(Math.max(1, rank));
            int inner = r == 0 ? 1 : heap.inner(r, k);
            for (int t = 0; r != 0 && t < heap.count(r); t++) {
                int p = t / inner % Math.max(1, ea + ew);
                int outer = t / inner / Math.max(1, ea + ew);
                if (p < ea) heap.copyItem(a, ra == 0 ? 0 : (outer * ea + p) * inner + t % inner, r, t);
                else heap.copyItem(w, rw == 0 ? 0 : (outer * ew + p - ea) * inner + t % inner, r, t);
            }
            return heap.sealWith(r, a);
        }

        /** Both lie on a new axis, which comes at that place. */
        private int laminate(int axis, int a, int w) {
            int ra = heap.rank(a);
            int rw = heap.rank(w);
            int rank = Math.max(ra, rw);
            if (axis < 0 || axis > rank) return state.raise(INDEX);
            if (ra != rw && ra != 0 && rw != 0) return state.raise(RANK);
            if (ra == rw && !heap.sameExtents(a, w)) return state.raise(LENGTH);
            int big = ra == rank ? a : w;
            for (int j = 0; j <= rank; j++) {
                poke(heap.shape, j, j == axis ? 2 : heap.wide(big, j < axis ? j : j - 1));
            }
            int r = heap.make(rank + 1);
            if (r == 0) return 0;
            int inner = heap.inner(r, axis);
            for (int t = 0; t < heap.count(r); t++) {
                int from = t / inner / 2 * inner + t % inner;
                if (t / inner % 2 == 0) heap.copyItem(a, ra == 0 ? 0 : from, r, t);
                else heap.copyItem(w, rw == 0 ? 0 : from, r, t);
            }
            return heap.sealWith(r, a);
        }
    }

    /** The functions that choose, look for and put in order. */
    private static final class Finds {
        private final State state;
        private final Heap heap;
        private final Scalars scalars;
        private final Writer writer;
        private final int[] rows = new int[MOST];
        private final int[] other = new int[MOST];

        private Finds(State state, Heap heap, Scalars scalars) {
            this.state = state;
            this.heap = heap;
            this.scalars = scalars;
            writer = new Writer(heap, MOST);
        }

        /** The place of the first item of v that is ALIKE to that one, COUNT if none is. */
        private int placeIn(int v, int n, int d) {
            int count = heap.count(v);
            for (int i = 0; i < count; i++) {
                if (heap.alike(heap.num(v, i), heap.den(v, i), n, d)) return i;
            }
            return count;
        }

        /** The VECTOR of the items of w at the first n of rows; EMPTY: w's FILL. */
        private int gathered(int w, int n) {
            int r = heap.vector(n);
            for (int i = 0; i < n; i++) heap.copyItem(w, peek(rows, i), r, i);
            return heap.sealWith(r, w);
        }

        private int unique(int w) {
            if (heap.rank(w) > 1) return state.raise(RANK);
            int n = 0;
            for (int i = 0; i < heap.count(w); i++) {
                if (placeIn(w, heap.num(w, i), heap.den(w, i)) == i) poke(rows, n++, i);
            }
            return gathered(w, n);
        }

        private int those(int a, int w, boolean within) {
            if (heap.rank(a) > 1 || heap.rank(w) > 1) return state.raise(RANK);
            int n = 0;
            for (int i = 0; i < heap.count(a); i++) {
                boolean found = placeIn(w, heap.num(a, i), heap.den(a, i)) < heap.count(w);
                if (found == within) poke(rows, n++, i);
            }
            return gathered(a, n);
        }

        private int union(int a, int w) {
            if (heap.rank(a) > 1 || heap.rank(w) > 1) return state.raise(RANK);
            int n = 0;
            for (int i = 0; i < heap.count(w); i++) {
                if (placeIn(a, heap.num(w, i), heap.den(w, i)) == heap.count(a)) poke(rows, n++, i);
            }
            int first = heap.count(a);
            int r = heap.vector(first + n);
            for (int i = 0; i < first; i++) heap.copyItem(a, i, r, i);
            for (int i = 0; i < n; i++) heap.copyItem(w, peek(rows, i), r, first + i);
            return heap.sealWith(r, a);
        }

        /** The places along the first axis in order; direction 1 or -1. */
        private int grade(int w, int direction) {
            if (heap.rank(w) == 0) return state.raise(RANK);
            int n = heap.wide(w, 0);
            for (int i = 0; i < n; i++) poke(rows, i, i);
            for (int half = 1; half < n; half *= 2) {
                for (int lo = 0; lo < n; lo += 2 * half) merge(w, lo, half, n, direction);
                System.arraycopy(other, 0, rows, 0, Math.min(n, rows.length));
            }
            int r = heap.vector(n);
            for (int i = 0; i < n; i++) heap.putItem(r, i, peek(rows, i) + state.origin, 1);
            return heap.seal(r);
        }

        /** Two halves of rows, each in order, into other: of what is the same the first half's comes first. */
        private void merge(int w, int lo, int half, int n, int direction) {
            int middle = Math.min(n, lo + half);
            int end = Math.min(n, lo + 2 * half);
            int i = lo;
            int j = middle;
            for (int to = lo; to < end; to++) {
                boolean first = j >= end
                    || i < middle && direction * compareRows(w, peek(rows, i), peek(rows, j)) <= 0;
                poke(other, to, peek(rows, first ? i++ : j++));
            }
        }

        private int compareRows(int w, int i, int j) {
            if (heap.count(w) == 0) return 0;
            int inner = heap.inner(w, 0);
            for (int k = 0; k < inner; k++) {
                int p = i * inner + k;
                int q = j * inner + k;
                int c = heap.order(heap.num(w, p), heap.den(w, p), heap.num(w, q), heap.den(w, q));
                if (c != 0) return c;
            }
            return 0;
        }

        private int iota(int w) {
            if (heap.rank(w) > 1) return state.raise(RANK);
            if (!heap.wholes(w, 0, GREATEST)) return state.raise(DOMAIN);
            int rank = heap.count(w);
            if (rank == 1) {
                int r = heap.vector(heap.num(w, 0));
                for (int i = 0; i < heap.count(r); i++) heap.putItem(r, i, i + state.origin, 1);
                return heap.seal(r);
            }
            for (int k = 0; k < rank; k++) poke(heap.shape, k, heap.num(w, k));
            int r = heap.make(rank);
            if (r == 0) return 0;
            if (heap.count(r) > MOST / (1 + rank)) return state.raise(LIMIT);
            for (int i = 0; i < heap.count(r); i++) heap.putItem(r, i, coordinates(r, i), BOX);
            return sealPlaces(r, rank);
        }

        /** An EMPTY value of places has as many 0s, BOXED, as its FILL. */
        private int sealPlaces(int r, int rank) {
            if (r != 0 && heap.count(r) == 0) {
                int v = heap.vector(rank);
                heap.putItem(r, 0, heap.seal(v), BOX);
            }
            return heap.seal(r);
        }

        /** The VECTOR of the places of item i of v. */
        private int coordinates(int v, int i) {
            int rank = heap.rank(v);
            int r = heap.vector(rank);
            int rest = i;
            for (int k = rank - 1; k >= 0; k--) {
                int e = Math.max(1, heap.wide(v, k));
                heap.putItem(r, k, rest % e + state.origin, 1);
                rest /= e;
            }
            return heap.seal(r);
        }

        private int where(int w) {
            int rank = heap.rank(w);
            if (rank == 0) return state.raise(RANK);
            if (!heap.wholes(w, 0, GREATEST)) return state.raise(DOMAIN);
            int n = 0;
            for (int i = 0; i < heap.count(w); i++) {
                int times = heap.num(w, i);
                if (times > MOST - n) return state.raise(LIMIT);
                for (int k = 0; k < times; k++) poke(rows, n++, i);
            }
            int r = heap.vector(n);
            for (int i = 0; i < n; i++) {
                if (rank == 1) heap.putItem(r, i, peek(rows, i) + state.origin, 1);
                else heap.putItem(r, i, coordinates(w, peek(rows, i)), BOX);
            }
            return rank == 1 ? heap.seal(r) : sealPlaces(r, rank);
        }

        private int format(int w) {
            writer.length = 0;
            writer.over = false;
            writer.write(w);
            if (writer.over) return state.raise(LIMIT);
            int r = heap.vector(writer.length);
            for (int i = 0; i < writer.length && i < writer.row.length; i++) heap.putItem(r, i, writer.row[i], SIGN);
            if (r != 0 && writer.length == 0) heap.putItem(r, 0, ' ', SIGN);
            return heap.seal(r);
        }

        private int indexOf(int a, int w) {
            if (heap.rank(a) != 1) return state.raise(RANK);
            int r = heap.like(w);
            for (int i = 0; i < heap.count(w); i++) {
                heap.putItem(r, i, placeIn(a, heap.num(w, i), heap.den(w, i)) + state.origin, 1);
            }
            return heap.seal(r);
        }

        private int member(int a, int w) {
            int r = heap.like(a);
            for (int i = 0; i < heap.count(a); i++) {
                boolean found = placeIn(w, heap.num(a, i), heap.den(a, i)) < heap.count(w);
                heap.putItem(r, i, found ? 1 : 0, 1);
            }
            return heap.seal(r);
        }

        private int find(int a, int w) {
            int r = heap.like(w);
            for (int i = 0; i < heap.count(w) && heap.rank(a) <= heap.rank(w); i++) {
                if (standsAt(a, w, i)) heap.putItem(r, i, 1, 1);
            }
            return heap.seal(r);
        }

        /** Whether a stands in w with its first item at item t: its last axes lie along those of w. */
        private boolean standsAt(int a, int w, int t) {
            int rank = heap.rank(w);
            int ahead = rank - heap.rank(a);
            int rest = t;
            for (int k = rank - 1; k >= 0; k--) {
                int e = Math.max(1, heap.wide(w, k));
                if (k >= ahead && rest % e + heap.wide(a, k - ahead) > e) return false;
                rest /= e;
            }
            for (int i = 0; i < heap.count(a); i++) {
                int from = t;
                int stride = 1;
                rest = i;
                for (int k = rank - 1; k >= ahead; k--) {
                    int e = Math.max(1, heap.wide(a, k - ahead));
                    from += rest % e * stride;
                    stride *= heap.wide(w, k);
                    rest /= e;
                }
                if (!heap.alike(heap.num(a, i), heap.den(a, i), heap.num(w, from), heap.den(w, from))) return false;
            }
            return true;
        }

        private int pick(int a, int w) {
            if (heap.rank(a) > 1) return state.raise(RANK);
            int here = w;
            for (int i = 0; i < heap.count(a); i++) {
                int p = heap.opened(a, i);
                int rank = heap.rank(here);
                if (p == 0) return 0;
                if (heap.rank(p) > 1 || heap.count(p) != rank) return state.raise(RANK);
                if (!heap.allWholes(p)) return state.raise(DOMAIN);
                int from = 0;
                for (int k = 0; k < rank; k++) {
                    int x = heap.num(p, k) - state.origin;
                    if (x < 0 || x >= heap.wide(here, k)) return state.raise(INDEX);
                    from = from * heap.wide(here, k) + x;
                }
                here = heap.opened(here, from);
            }
            return here;
        }

        /** part, or penc, where each 1 begins a VECTOR. */
        private int partition(int a, int w, boolean byOnes) {
            if (heap.rank(a) > 1 || heap.rank(w) > 1) return state.raise(RANK);
            int n = heap.count(a);
            if (n != heap.count(w)) return state.raise(LENGTH);
            if (!heap.wholes(a, 0, byOnes ? 1 : GREATEST)) return state.raise(DOMAIN);
            int groups = 0;
            int before = 0;
            for (int i = 0; i < n; i++) {
                int x = heap.num(a, i);
                // rows has where each VECTOR begins, other how many items it has
                if (byOnes ? x == 1 : x > before) {
                    poke(rows, groups, i);
                    poke(other, groups++, 1);
                } else if (groups > 0 && (byOnes || x > 0)) {
                    poke(other, groups - 1, peek(other, groups - 1) + 1);
                }
                before = x;
            }
            int r = heap.vector(groups);
            for (int i = 0; i < groups; i++) {
                heap.putItem(r, i, heap.slice(w, peek(rows, i), peek(other, i), 1), BOX);
            }
            if (groups == 0) heap.putItem(r, 0, heap.slice(w, 0, 0, 1), BOX);
            return heap.seal(r);
        }

        private int encode(int a, int w) {
            if (heap.rank(a) > 1) return state.raise(RANK);
            if (!heap.numbers(a) || !heap.numbers(w)) return state.raise(DOMAIN);
            int more = heap.rank(a);
            poke(heap.shape, 0, heap.count(a));
            for (int k = 0; k < heap.rank(w); k++) poke(heap.shape, more + k, heap.wide(w, k));
            int r = heap.make(more + heap.rank(w));
            if (r == 0) return 0;
            for (int i = 0; i < heap.count(w) && heap.count(a) > 0; i++) {
                if (!encodeOne(a, heap.num(w, i), heap.den(w, i), r, i, heap.count(w))) return 0;
            }
            return heap.sealWith(r, w);
        }

        /** What each of a leaves of one NUMBER, from the last on, so far apart in r. */
        private boolean encodeOne(int a, int n, int d, int r, int i, int apart) {
            long x = n;
            long y = Math.max(1, d);
            for (int j = heap.count(a) - 1; j >= 0; j--) {
                long an = heap.num(a, j);
                long ad = heap.den(a, j);
                if (!scalars.residue(an, ad, x, y)) return false;
                heap.putItem(r, j * apart + i, scalars.n, scalars.d);
                if (j == 0) break;
                x = scalars.below(x * ad, an * y);
                y = 1;
                if (Math.abs(x) > GREATEST) return state.fail(LIMIT);
            }
            return true;
        }

        private int decode(int a, int w) {
            if (heap.rank(a) > 1 || heap.rank(w) > 1) return state.raise(RANK);
            boolean single = heap.count(a) == 1;
            if (!single && heap.count(a) != heap.count(w)) return state.raise(LENGTH);
            if (!heap.numbers(a) || !heap.numbers(w)) return state.raise(DOMAIN);
            int n = 0;
            int d = 1;
            for (int i = 0; i < heap.count(w); i++) {
                int ia = single ? 0 : i;
                if (!scalars.two(TIMES, n, d, heap.num(a, ia), heap.den(a, ia))) return 0;
                if (!scalars.two(PLUS, scalars.n, scalars.d, heap.num(w, i), heap.den(w, i))) return 0;
                n = scalars.n;
                d = scalars.d;
            }
            return heap.scalar(n, d);
        }

        private int deal(int a, int w) {
            if (heap.count(a) != 1 || heap.count(w) != 1) return state.raise(LENGTH);
            int many = heap.num(a, 0);
            int n = heap.num(w, 0);
            if (!heap.wholes(a, 0, GREATEST) || !heap.wholes(w, 0, GREATEST) || many > n) return state.raise(DOMAIN);
            if (n > MOST) return state.raise(LIMIT);
            for (int i = 0; i < n; i++) poke(rows, i, i + state.origin);
            int r = heap.vector(many);
            for (int i = 0; i < many; i++) {
                int j = i + state.roll(n - i);
                int x = peek(rows, j);
                poke(rows, j, peek(rows, i));
                poke(rows, i, x);
                heap.putItem(r, i, x, 1);
            }
            return heap.seal(r);
        }
    }

    /** The functions that operators make. What they are made of is applied by the reader. */
    private static final class Operators {
        private static final int NO_UNIT = 2;

        private final State state;
        private final Heap heap;
        private final Places places;
        private final Shapes shapes;
        private Reader reader;

        private Operators(State state, Heap heap, Places places, Shapes shapes) {
            this.state = state;
            this.heap = heap;
            this.places = places;
            this.shapes = shapes;
        }

        private int made(int node, int a, int w) {
            int f = heap.look(node + 2);
            int more = heap.look(node + 3);
            switch (heap.look(node + 1)) {
                case SLASH: return a == 0 ? reduce(f, more, w) : windows(f, more, a, w);
                case BACKSLASH: return running(f, more, w);
                case EACH: return a == 0 ? each(f, w) : eachPair(f, a, w);
                case SWAP: return apply(f, w, a == 0 ? w : a);
                case OUTER: return outer(f, a, w);
                case INNER: return inner(f, more, a, w);
                case KEY: return key(f, a, w);
                case BY_RANK: return byRank(f, more, a, w);
                case POW: return repeat(f, more, a, w);
                default: return state.raise(SYNTAX);
            }
        }

        private int apply(int f, int a, int w) {
            return reader == null ? 0 : reader.apply(f, a, w);
        }

        /** What a row of none is by f; NO_UNIT if it is nothing. */
        private int unit(int f) {
            if (heap.look(f) != PRIM || heap.look(f + 2) != 0) return NO_UNIT;
            switch (heap.look(f + 1)) {
                case PLUS: case MINUS: case RESIDUE: case OR: case GCD: case LESS: case MORE: case DIFFER:
                    return 0;
                case TIMES: case OVER: case POWER: case BANG: case AND: case LCM: case LESS_EQUAL: case MORE_EQUAL:
                case EQUAL:
                    return 1;
                case MIN: return GREATEST;
                case MAX: return -GREATEST;
                default: return NO_UNIT;
            }
        }

        /** What comes between the extents of the result r, of rows of n items, and the first application. */
        private boolean ready(int f, int r, int n) {
            if (r == 0) return false;
            if (n == 0 && heap.count(r) > 0 && unit(f) == NO_UNIT) state.raise(DOMAIN);
            return state.spend(heap.count(r));
        }

        /** Of n items from there on, so far apart: the last one, then f of those ahead and what there is. */
        private int fold(int f, int w, int first, int apart, int n) {
            if (n == 0) return heap.scalar(unit(f), 1);
            int base = heap.top;
            int value = heap.opened(w, first + (n - 1) * apart);
            for (int i = n - 2; i >= 0 && state.event == 0; i--) {
                value = places.keep(base, apply(f, heap.opened(w, first + i * apart), value));
            }
            return value;
        }

        private int reduce(int f, int axis, int w) {
            int k = shapes.axisOf(axis, heap.rank(w));
            if (state.event != 0) return 0;
            if (k < 0) return w;
            int rank = heap.rank(w) - 1;
            for (int j = 0; j < rank; j++) poke(heap.shape, j, heap.wide(w, j < k ? j : j + 1));
            int r = heap.make(rank);
            int e = heap.wide(w, k);
            return folded(f, w, k, r, 1, e);
        }

        private int windows(int f, int axis, int a, int w) {
            int k = shapes.axisOf(axis, heap.rank(w));
            if (state.event != 0) return 0;
            if (k < 0) return state.raise(RANK);
            if (heap.count(a) != 1) return state.raise(LENGTH);
            if (heap.den(a, 0) != 1) return state.raise(DOMAIN);
            int n = heap.num(a, 0);
            int e = heap.wide(w, k);
            if (Math.abs(n) > e + 1) return state.raise(LENGTH);
            int many = e + 1 - Math.abs(n);
            heap.copyShape(w);
            poke(heap.shape, k, many);
            return folded(f, w, k, heap.make(heap.rank(w)), many, n);
        }

        /** Each of so many places along axis k gets f/ of n items from there on, below 0 in the other order. */
        private int folded(int f, int w, int k, int r, int many, int n) {
            if (!ready(f, r, n)) return 0;
            int inner = heap.inner(w, k);
            int e = heap.wide(w, k);
            int size = Math.abs(n);
            for (int t = 0; t < heap.count(r); t++) {
                int outer = t / inner / Math.max(1, many);
                int first = (outer * e + t / inner % Math.max(1, many)) * inner + t % inner;
                int value = n < 0 ? fold(f, w, first + (size - 1) * inner, -inner, size) : fold(f, w, first, inner, size);
                if (state.event != 0) return 0;
                heap.putBoxed(r, t, value);
            }
            return heap.sealWith(r, w);
        }

        private int running(int f, int axis, int w) {
            int k = shapes.axisOf(axis, heap.rank(w));
            if (state.event != 0) return 0;
            if (k < 0) return w;
            int r = heap.like(w);
            if (!ready(f, r, 1)) return 0;
            int inner = heap.inner(w, k);
            int e = Math.max(1, heap.wide(w, k));
            for (int t = 0; t < heap.count(r); t++) {
                int p = t / inner % e;
                int value = fold(f, w, t - p * inner, inner, p + 1);
                if (state.event != 0) return 0;
                heap.putBoxed(r, t, value);
            }
            return heap.sealWith(r, w);
        }

        private int each(int f, int w) {
            int r = heap.like(w);
            if (!ready(f, r, 1)) return 0;
            for (int i = 0; i < heap.count(r); i++) {
                int base = heap.top;
                int value = apply(f, 0, heap.opened(w, i));
                if (state.event != 0) return 0;
                heap.putBoxed(r, i, places.keep(base, value));
            }
            return heap.seal(r);
        }

        private int eachPair(int f, int a, int w) {
            int mode = heap.beside(a, w);
            if (mode < 0) return 0;
            int r = heap.like(mode == 1 ? w : a);
            if (!ready(f, r, 1)) return 0;
            for (int i = 0; i < heap.count(r); i++) {
                int base = heap.top;
                int value = apply(f, heap.opened(a, mode == 1 ? 0 : i), heap.opened(w, mode == 2 ? 0 : i));
                if (state.event != 0) return 0;
                heap.putBoxed(r, i, places.keep(base, value));
            }
            return heap.seal(r);
        }

        private int outer(int f, int a, int w) {
            int ra = heap.rank(a);
            heap.copyShape(a);
            for (int k = 0; k < heap.rank(w); k++) poke(heap.shape, ra + k, heap.wide(w, k));
            int r = heap.make(ra + heap.rank(w));
            if (!ready(f, r, 1)) return 0;
            int apart = Math.max(1, heap.count(w));
            for (int t = 0; t < heap.count(r); t++) {
                int base = heap.top;
                int value = apply(f, heap.opened(a, t / apart), heap.opened(w, t % apart));
                if (state.event != 0) return 0;
                heap.putBoxed(r, t, places.keep(base, value));
            }
            return heap.seal(r);
        }

        private int inner(int f, int g, int a, int w) {
            int ra = heap.rank(a);
            int rw = heap.rank(w);
            int ea = heap.wide(a, ra - 1);
            int ew = heap.wide(w, 0);
            if (ea != ew && ea != 1 && ew != 1) return state.raise(LENGTH);
            int n = ea == 1 ? ew : ea;
            int rank = Math.max(0, ra - 1);
            heap.copyShape(a);
            for (int k = 1; k < rw; k++) poke(heap.shape, rank + k - 1, heap.wide(w, k));
            int r = heap.make(rank + Math.max(0, rw - 1));
            if (!ready(f, r, n)) return 0;
            int columns = heap.inner(w, 0);
            for (int t = 0; t < heap.count(r); t++) {
                int base = heap.top;
                int list = heap.grab(n);
                for (int k = 0; k < n && list != 0; k++) {
                    int i = ra == 0 ? 0 : t / columns * ea + (ea == 1 ? 0 : k);
                    int j = rw == 0 ? 0 : (ew == 1 ? 0 : k) * columns + t % columns;
                    heap.put(list + k, apply(g, heap.opened(a, i), heap.opened(w, j)));
                    if (state.event != 0) return 0;
                }
                int value = n == 0 ? heap.scalar(unit(f), 1) : heap.look(list + n - 1);
                int behind = heap.top;
                for (int k = n - 2; k >= 0 && state.event == 0; k--) {
                    value = places.keep(behind, apply(f, heap.look(list + k), value));
                }
                if (state.event != 0) return 0;
                heap.putBoxed(r, t, places.keep(base, value));
            }
            return heap.seal(r);
        }

        private int byRank(int f, int k, int a, int w) {
            int n = heap.count(k);
            if (n != 1 && (a == 0 || n != 2)) return state.raise(LENGTH);
            if (!heap.allWholes(k)) return state.raise(DOMAIN);
            int ofA = a == 0 ? 0 : frame(a, heap.num(k, 0));
            int ofW = frame(w, heap.num(k, n - 1));
            if (ofA != 0 && ofW != 0) {
                if (ofA != ofW) return state.raise(RANK);
                for (int j = 0; j < ofA; j++) {
                    if (heap.wide(a, j) != heap.wide(w, j)) return state.raise(LENGTH);
                }
            }
            heap.copyShape(ofA != 0 ? a : w);
            int r = heap.make(Math.max(ofA, ofW));
            if (!ready(f, r, 1)) return 0;
            if (heap.count(r) == 0) return heap.seal(r);
            for (int i = 0; i < heap.count(r); i++) {
                int base = heap.top;
                int left = a == 0 ? 0 : cell(a, ofA, i);
                int value = apply(f, left, cell(w, ofW, i));
                if (state.event != 0) return 0;
                heap.putBoxed(r, i, places.keep(base, value));
            }
            return shapes.mix(r);
        }

        /** How many axes of v its FRAME has if k are taken. */
        private int frame(int v, int k) {
            int rank = heap.rank(v);
            return k >= 0 ? rank - Math.min(k, rank) : rank - Math.max(0, rank + k);
        }

        /** The value along the axes behind the FRAME, at place i of it. */
        private int cell(int v, int frame, int i) {
            if (frame == 0) return v;
            int rank = heap.rank(v) - frame;
            for (int k = 0; k < rank; k++) poke(heap.shape, k, heap.wide(v, frame + k));
            int r = heap.make(rank);
            int n = r == 0 ? 0 : heap.count(r);
            for (int j = 0; j < n; j++) heap.copyItem(v, i * n + j, r, j);
            return heap.sealWith(r, v);
        }

        /** Each application spends a STEP, so the turns end long before a great k. */
        private int repeat(int f, int k, int a, int w) {
            if (heap.count(k) != 1) return state.raise(LENGTH);
            if (!heap.wholes(k, 0, GREATEST)) return state.raise(DOMAIN);
            int times = Math.min(heap.num(k, 0), STEP_LIMIT + 1);
            int base = heap.top;
            int value = w;
            for (int i = 0; i < times && state.event == 0; i++) value = places.keep(base, apply(f, a, value));
            return value;
        }

        private int key(int f, int a, int w) {
            if (heap.rank(w) > 1 || heap.rank(a) > 1) return state.raise(RANK);
            int keys = a == 0 ? w : a;
            int n = heap.count(keys);
            if (n != heap.count(w)) return state.raise(LENGTH);
            int groups = heap.grab(n);
            int many = 0;
            for (int i = 0; i < n && groups != 0; i++) {
                int first = 0;
                while (first < i && !sameItems(keys, first, i)) first++;
                heap.put(groups + i, first);
                if (first == i) many++;
            }
            int r = heap.vector(many);
            if (!ready(f, r, 1)) return 0;
            if (many == 0) return heap.seal(r);
            int done = 0;
            for (int i = 0; i < n; i++) {
                if (heap.look(groups + i) != i) continue;
                int base = heap.top;
                int value = apply(f, heap.opened(keys, i), members(groups, i, n, a == 0 ? 0 : w));
                if (state.event != 0) return 0;
                heap.putBoxed(r, done++, places.keep(base, value));
            }
            return shapes.mix(r);
        }

        private boolean sameItems(int v, int i, int j) {
            return heap.alike(heap.num(v, i), heap.den(v, i), heap.num(v, j), heap.den(v, j));
        }

        /** The VECTOR of the items of w in that group; without w of their places. */
        private int members(int groups, int group, int n, int w) {
            int many = 0;
            for (int i = group; i < n; i++) {
                if (heap.look(groups + i) == group) many++;
            }
            int v = heap.vector(many);
            int done = 0;
            for (int i = group; i < n; i++) {
                if (heap.look(groups + i) != group) continue;
                if (w != 0) heap.copyItem(w, i, v, done++);
                else heap.putItem(v, done++, i + state.origin, 1);
            }
            return heap.seal(v);
        }
    }

    /** Works out PHRASES from their ends, assigns, applies and calls. */
    private static final class Reader {
        /** A list of INDICES: how many, their SIZES together, and the first of them (0 for an EMPTY one). */
        private static final int SIZES = 1;
        private static final int VALUES = 2;
        private static final int LISTED = RANKS + 1;

        private final State state;
        private final Heap heap;
        private final Text text;
        private final Places places;
        private final Scalars scalars;
        private final Shapes shapes;
        private final Finds finds;
        private final Operators operators;
        private final int[] rows = new int[MOST];
        private int place;
        /** Where the latest thing that was met begins. */
        private int mark;
        /** What was met ahead of the latest OPERANDS that stand side by side. */
        private int ahead;
        /** Whether the latest PHRASE ENDS BY := . */
        private boolean ended;

        private Reader(State state, Heap heap, Text text, Places places, Shapes shapes, Operators operators) {
            this.state = state;
            this.heap = heap;
            this.text = text;
            this.places = places;
            this.shapes = shapes;
            this.operators = operators;
            scalars = new Scalars(state, heap);
            finds = new Finds(state, heap, scalars);
        }

        /** What a PHRASE came to, if it may be nothing, but no function. */
        private int checked(int value) {
            if (state.event != 0) return 0;
            return value == 0 || heap.isValue(value) ? value : state.raise(SYNTAX);
        }

        /** Likewise, if it has to be a value. */
        private int needed(int value) {
            return value == 0 ? state.raise(VALUE) : checked(value);
        }

        /** A value, a function, or 0 for nothing or an event. If given is not 0 it is what the last NAME means. */
        private int phrase(int lo, int hi, int given) {
            ended = false;
            if (lo >= hi) return 0;
            mark = hi - 1;
            int piece = given != 0 ? attached(lo, given) : meet(lo, hi, false);
            if (state.event != 0) return 0;
            if (!heap.isValue(piece)) return functionAtEnd(lo, hi, piece);
            int value = strand(lo, piece);
            int next = ahead;
            boolean byAssignment = false;
            // each turn meets one token at least
            for (int turns = hi - lo; next != 0 && turns > 0 && state.event == 0; turns--) {
                byAssignment = next == ASSIGNMENT;
                if (byAssignment) {
                    assign(lo, value);
                    next = behindAssignment(lo);
                    continue;
                }
                int f = function(lo, next);
                int left = 0;
                next = 0;
                if (f != 0 && mark > lo) {
                    next = meet(lo, mark, true);
                    if (heap.isValue(next)) {
                        left = strand(lo, next);
                        next = ahead;
                    }
                }
                int start = mark;
                value = state.event != 0 ? 0 : apply(f, left, value);
                mark = start;
            }
            ended = byAssignment;
            return state.event != 0 ? 0 : value;
        }

        /** What stands ahead of what was assigned: no OPERAND may. */
        private int behindAssignment(int lo) {
            if (state.event != 0 || mark <= lo) return 0;
            int next = meet(lo, mark, true);
            return heap.isValue(next) ? state.raise(SYNTAX) : next;
        }

        private int functionAtEnd(int lo, int hi, int piece) {
            int f = function(lo, piece);
            if (f == 0 || mark <= lo) return f;
            if (text.type(mark - 1) != ASSIGN) {
                meet(lo, mark, false);
                return state.raise(SYNTAX);
            }
            if (!state.spend(1)) return 0;
            if (mark - 1 != lo + 1 || text.type(lo) != A_NAME) return state.raise(SYNTAX);
            define(lo, lo + 2, hi);
            ended = true;
            return 0;
        }

        /** From an OPERAND that was met on: all that stand side by side. What was met then is told by ahead. */
        private int strand(int lo, int last) {
            int list = 0;
            int many = 1;
            int next = 0;
            for (int turns = mark - lo; mark > lo && turns > 0; turns--) {
                next = meet(lo, mark, true);
                if (state.event != 0 || !heap.isValue(next)) break;
                list = heap.node(NAMED, next, list, 0);
                many++;
                next = 0;
            }
            ahead = next;
            if (state.event != 0) return 0;
            if (many == 1) return last;
            int v = heap.vector(many);
            for (int i = 0; i < many - 1 && v != 0; i++) {
                heap.putBoxed(v, i, heap.look(list + 1));
                list = heap.look(list + 2);
            }
            heap.putBoxed(v, many - 1, last);
            v = heap.seal(v);
            return v != 0 && state.spend(heap.size(v)) ? v : 0;
        }

        /** The thing that ends there, met: an OPERAND, a PRIMARY, an operator's node that wants what is ahead, := . */
        private int meet(int lo, int hi, boolean assignable) {
            int type = text.type(hi - 1);
            mark = hi - 1;
            if (type == ASSIGN) {
                if (!assignable) return state.raise(SYNTAX);
                if (!state.spend(1)) return 0;
                return form(lo, mark) == 0 ? state.raise(SYNTAX) : ASSIGNMENT;
            }
            if (type >= SLASH && type <= POW) {
                if (!state.spend(1)) return 0;
                return type == INNER || type > KEY ? state.raise(SYNTAX) : heap.node(MADE, type, 0, 0);
            }
            int piece = type == END_BRACKET ? bracket(lo, hi) : primary(hi);
            if (state.event != 0) return 0;
            return heap.isValue(piece) ? attached(lo, piece) : piece;
        }

        /** An OPERAND; or rank or pow with it, if one is right ahead. */
        private int attached(int lo, int operand) {
            int type = mark > lo ? text.type(mark - 1) : 0;
            if (type != BY_RANK && type != POW) return operand;
            mark--;
            return state.spend(1) ? heap.node(MADE, type, 0, operand) : 0;
        }

        private int primary(int hi) {
            int token = hi - 1;
            int type = text.type(token);
            boolean sign = takes(type) != 0;
            if (type == END_PAREN) return paren(hi);
            if (!sign && type != A_NUMBER && type != A_QUOTED && type != A_NAME && type != END_CURLY
                && type != LEFT && type != RIGHT && type != SELF) {
                return state.raise(SYNTAX);
            }
            if (!state.spend(1)) return 0;
            mark = token;
            switch (type) {
                case A_NUMBER: return heap.scalar(text.field(token, Text.A), text.field(token, Text.B));
                case A_QUOTED: return quoted(token);
                case A_NAME: return named(token);
                case LEFT: return known(peek(places.left, place));
                case RIGHT: return known(peek(places.right, place));
                case SELF: return known(peek(places.self, place));
                case END_CURLY:
                    mark = text.partner(token);
                    return heap.node(BRACE, mark, place, 0);
                default: return heap.node(PRIM, type, 0, 0);
            }
        }

        /** In the HOUSE, and without a left argument, there is nothing. */
        private int known(int handle) {
            return handle == 0 ? state.raise(VALUE) : handle;
        }

        private int quoted(int token) {
            int made = text.field(token, Text.A);
            if (made != 0) return made;
            int value = signs(token);
            if (value != 0) text.made(token, value);
            return value;
        }

        private int signs(int token) {
            int first = text.field(token, Text.START) + 1;
            int end = text.field(token, Text.END) - 1;
            int n = 0;
            for (int i = first; i < end; i++, n++) {
                if (text.byteOf(i) == '\'') i++;
            }
            if (n == 1) return heap.scalar(text.byteOf(first), SIGN);
            int v = heap.vector(n);
            int p = first;
            for (int i = 0; i < n && v != 0; i++) {
                heap.putItem(v, i, text.byteOf(p), SIGN);
                p += text.byteOf(p) == '\'' ? 2 : 1;
            }
            if (n == 0) heap.putItem(v, 0, ' ', SIGN);
            return heap.seal(v);
        }

        private int named(int token) {
            int slot = slotOf(token);
            if (slot < 0) return state.raise(VALUE);
            int from = peek(places.from, slot);
            if (places.meansAt(slot) == A_VALUE) return from;
            return heap.node(NAMED, from, peek(places.to, slot), places.placeOf(slot));
        }

        /** The slot of what a NAME means, as it is looked for; NONE. */
        private int slotOf(int token) {
            return places.lookFor(place, text.field(token, Text.A), text.field(token, Text.B));
        }

        private int paren(int hi) {
            int open = text.partner(hi - 1);
            if (!state.spend(1)) return 0;
            if (open + 1 >= hi - 1) return state.raise(VALUE);
            if (!state.enter()) return 0;
            int base = heap.top;
            int value = phrase(open + 1, hi - 1, 0);
            state.leave();
            mark = open;
            if (value == 0) return state.raise(VALUE);
            return heap.isValue(value) ? places.keep(base, value) : value;
        }

        /** A [ ] and what is ahead of it: an AXIS, or INDICES. */
        private int bracket(int lo, int hi) {
            int open = text.partner(hi - 1);
            if (!state.enter()) return 0;
            int base = heap.top;
            int list = indices(open + 1, hi - 1);
            if (state.event != 0) return 0;
            int type = open > lo ? text.type(open - 1) : 0;
            mark = open;
            if (takesAxis(type)) {
                int axis = heap.look(list + VALUES);
                state.leave();
                if (heap.look(list) != 1 || axis == 0) return state.raise(SYNTAX);
                if (!state.spend(1)) return 0;
                mark--;
                return type < PLUS ? heap.node(MADE, type, 0, axis) : heap.node(PRIM, type, axis, 0);
            }
            if (!mayBeOperand(type)) return state.raise(SYNTAX);
            int x = type == END_BRACKET ? bracket(lo, open) : primary(open);
            if (state.event != 0) return 0;
            if (!heap.isValue(x)) return state.raise(SYNTAX);
            int value = choose(x, list);
            state.leave();
            return places.keep(base, value);
        }

        private boolean takesAxis(int type) {
            return type == COMMA || type == REV || type == ROT || type == REP || type == EXPAND || type == SLASH
                || type == BACKSLASH;
        }

        private boolean mayBeOperand(int type) {
            return type == A_NUMBER || type == A_QUOTED || type == A_NAME || type == LEFT || type == RIGHT
                || type == END_PAREN || type == END_BRACKET;
        }

        /** The list of INDICES, worked out from the last one to the first. */
        private int indices(int lo, int hi) {
            int many = 1;
            for (int p = text.lastIndex(lo, hi); p > lo; p = text.lastIndex(lo, p - 1)) many++;
            int list = heap.grab(VALUES + LISTED);
            if (list == 0) return 0;
            int sizes = 0;
            int end = hi;
            for (int i = many - 1; i >= 0; i--) {
                int start = text.lastIndex(lo, end);
                int value = start < end ? needed(phrase(start, end, 0)) : 0;
                if (state.event != 0) return 0;
                if (i < LISTED) heap.put(list + VALUES + i, value);
                sizes += heap.size(value);
                end = start - 1;
            }
            heap.put(list, many);
            heap.put(list + SIZES, sizes);
            return list;
        }

        /** x [ INDICES ]. */
        private int choose(int x, int list) {
            if (!state.spend(1 + heap.size(x) + heap.look(list + SIZES))) return 0;
            int rank = locate(x, list);
            int r = rank < 0 ? 0 : heap.make(rank);
            if (r == 0) return 0;
            for (int t = 0; t < heap.count(r); t++) heap.copyItem(x, peek(rows, t), r, t);
            r = heap.sealWith(r, x);
            return r != 0 && state.spend(heap.size(r)) ? r : 0;
        }

        /** The RANK of x [ INDICES ], its extents in shape, its items' places in rows; below 0 with an event. */
        private int locate(int x, int list) {
            int rank = heap.rank(x);
            if (heap.look(list) != rank) return state.refuse(RANK);
            int more = 0;
            for (int k = 0; k < rank; k++) {
                int index = heap.look(list + VALUES + k);
                if (!heap.wholes(index, -GREATEST, GREATEST)) return state.refuse(DOMAIN);
            }
            for (int k = 0; k < rank; k++) {
                int index = heap.look(list + VALUES + k);
                if (!heap.wholes(index, state.origin, state.origin + heap.wide(x, k) - 1)) return state.refuse(INDEX);
                int axes = index == 0 ? 1 : heap.rank(index);
                for (int j = 0; j < axes; j++) {
                    poke(heap.shape, more++, index == 0 ? heap.wide(x, k) : heap.wide(index, j));
                }
            }
            int count = heap.room(more);
            if (count < 0) return NONE;
            for (int t = 0; t < count; t++) poke(rows, t, source(x, list, t));
            return more;
        }

        /** The place in x of item t of x [ INDICES ]. */
        private int source(int x, int list, int t) {
            int rest = t;
            int from = 0;
            int stride = 1;
            for (int k = heap.rank(x) - 1; k >= 0; k--) {
                int index = heap.look(list + VALUES + k);
                int many = Math.max(1, index == 0 ? heap.wide(x, k) : heap.count(index));
                int p = rest % many;
                from += stride * (index == 0 ? p : heap.num(index, p) - state.origin);
                stride *= heap.wide(x, k);
                rest /= many;
            }
            return from;
        }

        /** A FUNCTION, worked out from its last piece on. */
        private int function(int lo, int last) {
            int whole = 0;
            int hole = 0;
            int piece = last;
            for (int turns = mark; turns >= lo && state.event == 0; turns--) {
                if (heap.look(piece) >= 0) return state.raise(SYNTAX);
                boolean operator = heap.look(piece) == MADE && heap.look(piece + 2) == 0;
                if (!operator) {
                    piece = workedOut(piece);
                    if (state.event != 0) return 0;
                    if (mark > lo && text.type(mark - 1) == INNER) {
                        if (!state.spend(1)) return 0;
                        mark--;
                        piece = heap.node(MADE, INNER, 0, piece);
                        operator = true;
                    }
                }
                if (hole == 0) whole = piece;
                else heap.put(hole + 2, piece);
                if (!operator) return whole;
                hole = piece;
                if (mark <= lo) return state.raise(SYNTAX);
                piece = meet(lo, mark, false);
            }
            return 0;
        }

        /** What a NAME's function is now: its text is worked out in the place where it was assigned. */
        private int workedOut(int piece) {
            if (heap.look(piece) != NAMED) return piece;
            if (!state.enter()) return 0;
            int start = mark;
            int here = place;
            place = heap.look(piece + 3);
            int f = phrase(heap.look(piece + 1), heap.look(piece + 2), 0);
            place = here;
            mark = start;
            state.leave();
            if (state.event != 0) return 0;
            return f == 0 || heap.isValue(f) ? state.raise(SYNTAX) : f;
        }

        /** NAME := FUNCTION, whose text is from..to. */
        private void define(int token, int from, int to) {
            int slot = places.slotFor(place, text.field(token, Text.A), text.field(token, Text.B));
            if (slot < 0) {
                state.raise(LIMIT);
                return;
            }
            int bytes = text.span(from, to) + houseBytes();
            if (places.meansAt(slot) == A_FUNCTION) bytes -= bytesAt(slot);
            if (place == 0 && bytes > TEXT_LIMIT) state.raise(LIMIT);
            else places.mean(slot, A_FUNCTION, from, to);
        }

        /** The bytes of the texts of the HOUSE's functions. */
        private int houseBytes() {
            int sum = 0;
            for (int s = 0; s < HOUSE_NAMES; s++) {
                if (places.meansAt(s) == A_FUNCTION) sum += bytesAt(s);
            }
            return sum;
        }

        private int bytesAt(int slot) {
            return text.span(peek(places.from, slot), peek(places.to, slot));
        }

        /** Which of the five stands ahead of a := : 1 NAME, 2 ( NAMES ), 3 NAME and sign, 4 NAME [ ], 5 ( PHRASE ); 0. */
        private int form(int lo, int hi) {
            if (hi <= lo) return 0;
            int type = text.type(hi - 1);
            if (type == A_NAME) return 1;
            if (takes(type) != 0) return hi - 1 > lo && text.type(hi - 2) == A_NAME ? 3 : 0;
            int open = text.partner(hi - 1);
            if (type == END_BRACKET) return open > lo && text.type(open - 1) == A_NAME ? 4 : 0;
            if (type != END_PAREN || text.type(hi - 2) != A_NAME) return 0;
            return text.allNames(open + 1, hi - 1) ? 2 : 5;
        }

        private void assign(int lo, int value) {
            int hi = mark;
            switch (form(lo, hi)) {
                case 1:
                    mark = hi - 1;
                    give(slotHere(hi - 1), value);
                    break;
                case 2:
                    shareOut(hi, value);
                    break;
                case 3:
                    combine(hi, value);
                    break;
                case 4:
                    change(hi, value);
                    break;
                default:
                    changeChosen(hi, value);
                    break;
            }
        }

        /** The slot of a NAME in the place at hand; NONE with LIMIT. */
        private int slotHere(int token) {
            int slot = places.slotFor(place, text.field(token, Text.A), text.field(token, Text.B));
            return slot < 0 ? state.refuse(LIMIT) : slot;
        }

        /** The slot of a NAME that means a value; NONE with VALUE. */
        private int valueSlot(int token) {
            int slot = slotOf(token);
            return places.meansAt(slot) == A_VALUE ? slot : state.refuse(VALUE);
        }

        private void give(int slot, int value) {
            if (state.event != 0) return;
            places.mean(slot, A_VALUE, value, 0);
            state.spend(heap.size(value));
        }

        private void shareOut(int hi, int value) {
            int open = text.partner(hi - 1);
            int names = hi - open - 2;
            int count = heap.count(value);
            if (count != 1) {
                if (heap.rank(value) != 1) state.raise(RANK);
                if (count != names) state.raise(LENGTH);
            }
            for (int i = names - 1; i >= 0 && state.event == 0; i--) {
                int slot = slotHere(open + 1 + i);
                give(slot, heap.opened(value, count == 1 ? 0 : i));
            }
            mark = open;
        }

        private void combine(int hi, int value) {
            int slot = valueSlot(hi - 2);
            if (slot >= 0) {
                int f = heap.node(PRIM, text.type(hi - 1), 0, 0);
                give(slot, apply(f, peek(places.from, slot), value));
            }
            mark = hi - 2;
        }

        private void change(int hi, int value) {
            int open = text.partner(hi - 1);
            if (!state.enter()) return;
            int list = indices(open + 1, hi - 1);
            int slot = state.event != 0 ? NONE : valueSlot(open - 1);
            if (slot >= 0) {
                int own = peek(places.from, slot);
                int rank = locate(own, list);
                if (rank >= 0 && suits(value, rank)) {
                    int many = heap.room(rank);
                    give(slot, replaced(own, value, many));
                }
            }
            state.leave();
            mark = open - 1;
        }

        /** Whether the VALUE has COUNT 1, or the extents in shape. */
        private boolean suits(int value, int rank) {
            if (heap.count(value) == 1) return true;
            if (heap.rank(value) != rank) return state.fail(RANK);
            for (int k = 0; k < rank; k++) {
                if (heap.wide(value, k) != peek(heap.shape, k)) return state.fail(LENGTH);
            }
            return true;
        }

        /** A value like own, with the VALUE's items at the places that the first of rows tell. */
        private int replaced(int own, int value, int many) {
            int r = heap.like(own);
            for (int i = 0; i < heap.count(own); i++) heap.copyItem(own, i, r, i);
            boolean single = heap.count(value) == 1;
            for (int t = 0; t < many; t++) heap.copyItem(value, single ? 0 : t, r, peek(rows, t));
            return heap.sealWith(r, own);
        }

        private void changeChosen(int hi, int value) {
            int open = text.partner(hi - 1);
            if (!state.spend(1) || !state.enter()) return;
            if (!state.spend(1)) return;
            int slot = valueSlot(hi - 2);
            if (slot < 0) return;
            int own = peek(places.from, slot);
            int ways = numbered(own);
            if (!state.spend(heap.size(ways))) return;
            int chosen = needed(phrase(open + 1, hi - 1, ways));
            state.leave();
            mark = open;
            if (!heap.wholes(chosen, 1, heap.count(own))) state.raise(DOMAIN);
            if (state.event != 0) return;
            heap.copyShape(chosen);
            if (!suits(value, heap.rank(chosen))) return;
            for (int t = 0; t < heap.count(chosen); t++) poke(rows, t, heap.num(chosen, t) - 1);
            give(slot, replaced(own, value, heap.count(chosen)));
        }

        /** The value with the extents of v and the WHOLES 1, 2, 3, .. as items. */
        private int numbered(int v) {
            int r = heap.like(v);
            for (int i = 0; i < heap.count(r); i++) heap.putItem(r, i, i + 1, 1);
            return heap.seal(r);
        }

        /** Which arguments a function's sign or WORD takes: 1 one, 2 two, 3 either; 0 for any other token. */
        private static int takes(int type) {
            int k = type - PLUS;
            return k >= 0 && k < TAKES.length() ? TAKES.charAt(k) - '0' : 0;
        }

        private boolean fits(int f, boolean two) {
            int code = heap.look(f + 1);
            if (heap.look(f) == PRIM) {
                if (code == COMMA && !two && heap.look(f + 2) != 0) return false;
                return (takes(code) & (two ? 2 : 1)) != 0;
            }
            if (heap.look(f) != MADE) return true;
            if (code == BACKSLASH) return !two;
            return two || code != OUTER && code != INNER;
        }

        /** What a function gives of w, and of a if that is not 0. */
        private int apply(int f, int a, int w) {
            if (state.event != 0) return 0;
            if (!fits(f, a != 0)) return state.raise(SYNTAX);
            if (!state.spend(1 + heap.size(w) + heap.size(a))) return 0;
            int head = heap.look(f);
            int value = 0;
            if (head == PRIM) {
                value = primitive(heap.look(f + 1), heap.look(f + 2), a, w);
            } else {
                if (!state.enter()) return 0;
                int base = heap.top;
                value = places.keep(base, head == BRACE ? call(f, a, w) : operators.made(f, a, w));
                state.leave();
            }
            if (state.event != 0) return 0;
            return state.spend(heap.size(value)) ? value : 0;
        }

        private int primitive(int code, int axis, int a, int w) {
            if (code == SAME) return w;
            boolean early = code < COMMA && (code != ROLL || a == 0) || code >= EQUAL && code <= LCM;
            if (early) return a == 0 ? scalars.alone(code, w) : scalars.beside(code, a, w);
            if (a == 0) {
                switch (code) {
                    case RHO: return shapes.extents(w);
                    case COMMA: return heap.slice(w, 0, heap.count(w), 1);
                    case TALLY: return heap.scalar(heap.wide(w, 0), 1);
                    case NESTING: return heap.scalar(heap.depth(w), 1);
                    case HEAD: return heap.opened(w, 0);
                    case ENC: return heap.enclosed(w);
                    case MIX: return shapes.mix(w);
                    case SPLIT: return shapes.split(w);
                    case ENL: return shapes.enlist(w);
                    case REV: return shapes.reverse(axis, w);
                    case TR: return shapes.transpose(w);
                    case UNIQ: return finds.unique(w);
                    case UP: return finds.grade(w, 1);
                    case DOWN: return finds.grade(w, -1);
                    case IOTA: return finds.iota(w);
                    case WHERE: return finds.where(w);
                    case FMT: return finds.format(w);
                    default: return execute(w);
                }
            }
            switch (code) {
                case RHO: return shapes.reshape(a, w);
                case COMMA: return shapes.join(axis, a, w);
                case ROT: return shapes.rotate(axis, a, w);
                case TR: return shapes.transposeBy(a, w);
                case TAKE: return shapes.cut(a, w, true);
                case DROP: return shapes.cut(a, w, false);
                case REP: return shapes.replicate(axis, a, w);
                case EXPAND: return shapes.expand(axis, a, w);
                case IOTA: return finds.indexOf(a, w);
                case MEM: return finds.member(a, w);
                case FIND: return finds.find(a, w);
                case PICK: return finds.pick(a, w);
                case MATCH: return heap.scalar(heap.matches(a, w) ? 1 : 0, 1);
                case WITHOUT: return finds.those(a, w, false);
                case INTER: return finds.those(a, w, true);
                case UNION: return finds.union(a, w);
                case PART: return finds.partition(a, w, false);
                case PENC: return finds.partition(a, w, true);
                case ENCO: return finds.encode(a, w);
                case DECO: return finds.decode(a, w);
                default: return finds.deal(a, w);
            }
        }

        private int execute(int w) {
            if (!state.enter()) return 0;
            if (heap.rank(w) > 1) return state.raise(RANK);
            for (int i = 0; i < heap.count(w); i++) {
                if (heap.den(w, i) != SIGN) return state.raise(DOMAIN);
            }
            int from = text.length;
            int first = text.count;
            for (int i = 0; i < heap.count(w); i++) text.add(heap.num(w, i));
            if (text.scan(from) >= 0) {
                text.length = from;
                text.count = first;
                return state.raise(SYNTAX);
            }
            int value = 0;
            int last = text.count;
            int base = heap.top;
            for (int lo = first; lo <= last && state.event == 0; lo++) {
                int hi = text.statementEnd(lo, last);
                if (lo < hi && state.spend(1)) value = places.keep(base, checked(phrase(lo, hi, 0)));
                lo = hi;
            }
            state.leave();
            return value == 0 ? state.raise(VALUE) : value;
        }

        private int call(int f, int a, int w) {
            int mine = places.begin(heap.look(f + 2), a, w, f);
            if (mine < 0) return state.raise(LIMIT);
            int here = place;
            int open = state.open;
            int base = heap.top;
            int guards = places.guardCount;
            place = mine;
            int value = body(heap.look(f + 1));
            for (int guard = places.guardCount - 1; guard >= guards && takeable(); guard--) {
                int events = places.guardField(guard, 0);
                if ((events & 1) == 0 && (events >> state.event & 1) == 0) continue;
                state.event = 0;
                state.open = open;
                places.deepest = mine;
                places.guardCount = guard;
                place = mine;
                places.keep(base, 0);
                value = needed(phrase(places.guardField(guard, 1), places.guardField(guard, 2), 0));
            }
            places.guardCount = guards;
            places.deepest = mine - 1;
            place = here;
            return value;
        }

        private boolean takeable() {
            return state.event >= SYNTAX && state.event <= LIMIT;
        }

        /** Does the STATEMENTS of a { }, up to the first that gives a value. */
        private int body(int open) {
            int end = text.partner(open);
            for (int lo = open + 1; lo <= end; lo++) {
                int hi = text.statementEnd(lo, end);
                int base = heap.top;
                int value = lo < hi ? clause(lo, hi) : 0;
                if (value != 0 || state.event != 0) return value;
                places.keep(base, 0);
                lo = hi;
            }
            return state.raise(VALUE);
        }

        /** The value that a STATEMENT gives its CALL; 0 if it gives none. */
        private int clause(int lo, int hi) {
            if (!state.spend(1)) return 0;
            int colon = text.colonIn(lo, hi);
            if (colon == hi) {
                int value = checked(phrase(lo, hi, 0));
                return ended ? 0 : value;
            }
            int test = needed(phrase(lo, colon, 0));
            if (state.event != 0) return 0;
            if (text.type(colon) == GUARD) {
                guard(test, colon + 1, hi);
                return 0;
            }
            if (heap.count(test) != 1) return state.raise(LENGTH);
            if (!heap.wholes(test, 0, 1)) return state.raise(DOMAIN);
            return heap.num(test, 0) == 1 ? needed(phrase(colon + 1, hi, 0)) : 0;
        }

        private void guard(int events, int lo, int hi) {
            if (!heap.wholes(events, 0, LIMIT)) {
                state.raise(DOMAIN);
                return;
            }
            int mask = 0;
            for (int i = 0; i < heap.count(events); i++) mask |= 1 << heap.num(events, i);
            places.addGuard(mask, lo, hi);
        }
    }
}
