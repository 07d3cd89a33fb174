import java.util.Arrays;
import java.util.NoSuchElementException;

/**
 * A tongue for arrays of whole numbers, and a small vector machine with its assembler.
 *
 * <p>A line's arrays lie in blocks that every line uses again, and its headers in a pool; only what a
 * name or a verb holds gets memory of its own. So a run of calls makes few objects.
 */
public final class ShapeTongue {
    private static final int TAPE_BYTES = 4096;
    private static final int LINE_BYTES = 400;
    private static final int MOST_AXES = 5;
    private static final int MOST_ATOMS = 4096;
    private static final int MOST_NAMES = 40;
    private static final int MOST_PARTS = 60;
    private static final int MOST_WORK = 200000;
    private static final long LIMIT = 1L << 62;

    private static final int ERROR_WORD = 1;
    private static final int ERROR_NAME = 2;
    private static final int ERROR_ROW = 3;
    private static final int ERROR_USE = 4;
    private static final int ERROR_NUMBER = 5;
    private static final int ERROR_SHAPE = 6;
    private static final int ERROR_ITEM = 7;
    private static final int ERROR_SIZE = 8;
    private static final int ERROR_COUNT = 9;
    private static final int ERROR_WORK = 10;

    // What stands in a row.
    private static final int NOTHING = 0;
    private static final int MARK = 1;
    private static final int ASSIGN = 2;
    private static final int OPEN = 3;
    private static final int CLOSE = 4;
    private static final int NAME = 5;
    private static final int NOUN = 6;
    private static final int VERB = 7;
    private static final int ADVERB = 8;
    private static final int CONJUNCTION = 9;

    /** Two characters a sign; a sign's code is its place here, from 1 on. */
    private static final String SIGNS =
            "+ - * % ^ | < = > ~:<:>:<.>.+.*.-.$ # , i.{.}.{ |.|:/:\\:e.~.[ ] / \\ ~ \" & @ =.( ) ";
    private static final int ADD = 1;
    private static final int SUBTRACT = 2;
    private static final int MULTIPLY = 3;
    private static final int DIVIDE = 4;
    private static final int POWER = 5;
    private static final int REST = 6;
    private static final int BELOW = 7;
    private static final int SAME = 8;
    private static final int ABOVE = 9;
    private static final int OTHER = 10;
    private static final int NOT_ABOVE = 11;
    private static final int NOT_BELOW = 12;
    private static final int LESSER = 13;
    private static final int GREATER = 14;
    private static final int DIVISOR = 15;
    private static final int MULTIPLE = 16;
    private static final int ONE_LESS = 17;
    private static final int SHAPE = 18;
    private static final int COUNT = 19;
    private static final int JOIN = 20;
    private static final int PLACE = 21;
    private static final int TAKE = 22;
    private static final int DROP = 23;
    private static final int FROM = 24;
    private static final int TURN = 25;
    private static final int AXES = 26;
    private static final int UP = 27;
    private static final int DOWN = 28;
    private static final int MEMBER = 29;
    private static final int UNIQUE = 30;
    private static final int LEFT = 31;
    private static final int RIGHT = 32;
    private static final int SLASH = 33;
    private static final int BACKSLASH = 34;
    private static final int TILDE = 35;
    private static final int QUOTE = 36;
    private static final int AMPERSAND = 37;
    private static final int AT_SIGN = 38;
    private static final int ASSIGN_SIGN = 39;
    private static final int OPEN_SIGN = 40;
    private static final int CLOSE_SIGN = 41;

    // How a verb is made.
    private static final int PLAIN = 0;
    private static final int INSERT = 1;
    private static final int PREFIXES = 2;
    private static final int SWAP = 3;
    private static final int RANK = 4;
    private static final int BIND_LEFT = 5;
    private static final int BIND_RIGHT = 6;
    private static final int OVER = 7;
    private static final int ATOP = 8;
    private static final int FORK = 9;
    private static final int ARRAY_FORK = 10;
    private static final int HOOK = 11;

    private static final int MEMORY_BYTES = 65536;
    private static final int MOST_STEPS = 20000;
    private static final int MOST_ELEMENTS = 128;
    private static final long UNSIGNED = 0xffffffffL;

    // The vector words of funct3 0, 4, 3, 2 and 6, without a mask; and what a mask leaves of them.
    private static final int VV = 0x02000057;
    private static final int VX = 0x02004057;
    private static final int VI = 0x02003057;
    private static final int PV = 0x02002057;
    private static final int PX = 0x02006057;
    private static final int MASKED = ~(1 << 25);

    private final byte[] tape = new byte[TAPE_BYTES];
    private final Row row = new Row();
    private final Machine engine = new Machine();
    private final Assembler assembler = new Assembler();
    private int taped;

    public ShapeTongue() {
    }

    public int feed(int n, long v) throws IllegalArgumentException, IllegalStateException {
        if (n < 1 || n > 8) {
            throw new IllegalArgumentException("n is not 1 .. 8");
        }
        if (taped + n > TAPE_BYTES) {
            throw new IllegalStateException("the tape is full");
        }
        for (int k = 0; k < n; k++) {
            tape[taped + k] = (byte) (v >>> 8 * k);
        }
        taped += n;
        return taped;
    }

    public int line() {
        int size = taped;
        taped = 0;
        return row.play(tape, size, false);
    }

    public void vector(int e) throws IllegalArgumentException {
        if (e != 2 && e != 4 && e != 8 && e != 16) {
            throw new IllegalArgumentException("e is not 2, 4, 8 or 16");
        }
        engine.begin(e);
    }

    public int assemble() {
        int size = taped;
        taped = 0;
        int answer = assembler.run(tape, size);
        if (answer >= 0) {
            engine.take(assembler.words, answer);
        }
        return answer;
    }

    public int steps(int n) throws IllegalArgumentException {
        if (n < 0 || n > MOST_STEPS) {
            throw new IllegalArgumentException("n is not 0 .. 20000");
        }
        int done = 0;
        while (done < n && engine.state == Machine.RUNS) {
            engine.step();
            done++;
        }
        return done;
    }

    public int register(int k) throws IllegalArgumentException {
        if (k < 0 || k > 31) {
            throw new IllegalArgumentException("no such register");
        }
        return engine.x[k];
    }

    public void setRegister(int k, int v) throws IllegalArgumentException {
        if (k < 0 || k > 31) {
            throw new IllegalArgumentException("no such register");
        }
        engine.put(k, v);
    }

    public int element(int k, int i) throws IllegalArgumentException {
        if (k < 0 || k > 31 || i < 0 || i >= engine.vectors.wide) {
            throw new IllegalArgumentException("no such element");
        }
        return engine.vectors.v[k * engine.vectors.wide + i];
    }

    public void setElement(int k, int i, int v) throws IllegalArgumentException {
        if (k < 0 || k > 31 || i < 0 || i >= engine.vectors.wide) {
            throw new IllegalArgumentException("no such element");
        }
        engine.vectors.v[k * engine.vectors.wide + i] = v;
    }

    public int word(int at) throws NoSuchElementException {
        if (!Machine.within(at, 4)) {
            throw new NoSuchElementException("no such word");
        }
        return engine.memory[at >> 2];
    }

    public void setWord(int at, int v) throws NoSuchElementException {
        if (!Machine.within(at, 4)) {
            throw new NoSuchElementException("no such word");
        }
        engine.memory[at >> 2] = v;
    }

    public void jump(int at) throws IllegalArgumentException {
        if (!Machine.within(at, 4)) {
            throw new IllegalArgumentException("no such word");
        }
        engine.pc = at;
        engine.state = Machine.RUNS;
    }

    public int machine() {
        int size = taped;
        taped = 0;
        return row.play(tape, size, true);
    }

    public int axis(int k) throws NoSuchElementException {
        Grid value = row.value;
        if (value == null || k < 0 || k >= value.rank) {
            throw new NoSuchElementException("no such axis");
        }
        return value.axes[k];
    }

    public long atom(int k) throws NoSuchElementException {
        Grid value = row.value;
        if (value == null || k < 0 || k >= value.size) {
            throw new NoSuchElementException("no such atom");
        }
        return value.store[value.at + k];
    }

    public int name() {
        int size = taped;
        taped = 0;
        int at = row.find(tape, 0, size);
        if (at < 0) {
            return 0;
        }
        return row.nameVerbs[at] == null ? 1 : 2;
    }

    public int forget() {
        int had = row.names;
        row.names = 0;
        return had;
    }

    public int look(int what) throws IllegalArgumentException {
        Grid value = row.value;
        switch (what) {
            case 0: return taped;
            case 1: return value != null ? 1 : row.isVerb ? 2 : 0;
            case 2: return value != null ? value.rank : -1;
            case 3: return value != null ? value.size : -1;
            case 4: return row.names;
            case 5: return row.heap.work;
            case 6: return engine.state;
            case 7: return engine.pc;
            case 8: return engine.vectors.length;
            case 9: return assembler.errorLine;
            case 10: return engine.vectors.group;
            default: throw new IllegalArgumentException("nothing to look at");
        }
    }

    /** An array: its shape, and where its atoms lie. Many headers may look at the same atoms. */
    private static final class Grid {
        /** Where it stands in the pool; below 0 for one that names and verbs keep. */
        final int place;
        final int[] axes = new int[MOST_AXES];
        long[] store;
        int at;
        int rank;
        int size;

        Grid(int place) {
            this.place = place;
        }

        int items() {
            return rank == 0 ? 1 : axes[0];
        }

        /** The product of the axes from one on, up to another. */
        int span(int from, int to) {
            int n = 1;
            for (int k = from; k < to && k < MOST_AXES; k++) {
                n *= axes[k];
            }
            return n;
        }

        int itemSize() {
            return span(1, rank);
        }

        void be(Grid g) {
            store = g.store;
            at = g.at;
            rank = g.rank;
            size = g.size;
            System.arraycopy(g.axes, 0, axes, 0, MOST_AXES);
        }

        /** A list of so many atoms; where they lie stays. */
        void beList(int n) {
            rank = 1;
            axes[0] = n;
            size = n;
        }

        /** The first axes of g alone, without atoms. */
        void beFrame(Grid g, int frame) {
            rank = frame;
            System.arraycopy(g.axes, 0, axes, 0, MOST_AXES);
            size = span(0, frame);
            store = null;
            at = 0;
        }

        /** The cell of g behind so many axes, counted in order. */
        void beCell(Grid g, int frame, int index) {
            rank = g.rank - frame;
            System.arraycopy(g.axes, frame, axes, 0, rank);
            size = span(0, rank);
            store = g.store;
            at = g.at + index * size;
        }

        /** Looks whether the shape is one that arrays may have; its size is right then. */
        boolean measure() {
            int product = 1;
            boolean empty = false;
            for (int k = 0; k < rank && k < MOST_AXES; k++) {
                if (axes[k] == 0) {
                    empty = true;
                } else {
                    product *= axes[k];
                }
                if (product > MOST_ATOMS) {
                    return false;
                }
            }
            size = empty ? 0 : product;
            return true;
        }

        /** Puts g's axes from one on behind its own; false if that is no shape. */
        boolean grow(Grid g, int from) {
            int more = Math.max(g.rank - from, 0);
            if (rank + more > MOST_AXES) {
                return false;
            }
            for (int k = 0; k < more; k++) {
                axes[rank + k] = g.axes[from + k];
            }
            rank += more;
            return measure();
        }

        /** Whether its axes from one on are those of g from another on. */
        boolean sameFrom(int from, Grid g, int other) {
            int many = rank - from;
            if (many != g.rank - other) {
                return false;
            }
            for (int k = 0; k < many; k++) {
                if (axes[from + k] != g.axes[other + k]) {
                    return false;
                }
            }
            return true;
        }
    }

    /** A line's memory, work, error, and the bounds of its numbers. */
    private static final class Heap {
        // A line's work pays for all its values but those that are being put together, of which each
        // level of a verb has one: fewer than 460000 atoms. A block is left when less than a quarter of
        // it is free, so 64 blocks are never used up, nor are the headers: a few for each word and level.
        private static final int BLOCK = 16384;
        private static final int BLOCKS = 64;
        private static final int GRIDS = 2000;

        private final long[][] blocks = new long[BLOCKS][];
        private final Grid[] grids = new Grid[GRIDS];
        private int block;
        private int used;
        int top;
        int work;
        int error;
        long least;
        long most;

        void begin(boolean small) {
            block = 0;
            used = 0;
            top = 0;
            work = 0;
            error = 0;
            least = small ? Integer.MIN_VALUE : -LIMIT;
            most = small ? Integer.MAX_VALUE : LIMIT;
        }

        /** Ends the line with an error: Row.play catches it. */
        void fail(int code) {
            error = code;
            throw new IllegalStateException("the line has an error");
        }

        void pay(int price) {
            work += price;
            if (work > MOST_WORK) {
                fail(ERROR_WORK);
            }
        }

        long checked(long v) {
            if (v < least || v > most) {
                fail(ERROR_NUMBER);
            }
            return v;
        }

        /** A header of the pool, free until its user sets the top back. */
        Grid blank() {
            if (top >= GRIDS) {
                error = ERROR_WORK;
                throw new IllegalStateException("the pool is empty");
            }
            Grid g = grids[top];
            if (g == null) {
                g = new Grid(top);
                grids[top] = g;
            }
            top++;
            return g;
        }

        /** Memory for as many atoms as the header tells. */
        void room(Grid g) {
            int need = g.size;
            if (used + need > BLOCK) {
                block++;
                used = 0;
            }
            if (block >= BLOCKS || need > BLOCK) {
                error = ERROR_WORK;
                throw new IllegalStateException("the blocks are used up");
            }
            if (blocks[block] == null) {
                blocks[block] = new long[BLOCK];
            }
            g.store = blocks[block];
            g.at = used;
            used += need;
        }

        Grid single(long v) {
            Grid g = blank();
            g.rank = 0;
            g.size = 1;
            room(g);
            g.store[g.at] = v;
            return g;
        }

        Grid list(int n) {
            Grid g = blank();
            g.beList(n);
            room(g);
            return g;
        }

        Grid like(Grid shape) {
            Grid g = blank();
            g.be(shape);
            room(g);
            return g;
        }

        /** Sets the pool's top back; the value that is to stay moves to where the top was. */
        Grid settle(int mark, Grid value) {
            top = mark;
            if (value.place < mark) {
                return value;
            }
            Grid g = blank();
            if (g != value) {
                g.be(value);
            }
            return g;
        }

        /** The array with memory of its own, which outlives the line. */
        Grid keep(Grid g) {
            if (g.place < 0) {
                return g;
            }
            Grid kept = new Grid(-1);
            kept.be(g);
            kept.store = new long[g.size];
            kept.at = 0;
            System.arraycopy(g.store, g.at, kept.store, 0, g.size);
            return kept;
        }
    }

    /** A verb: a plain one, or one made of verbs and arrays. */
    private static final class Verb {
        final int kind;
        final int sign;
        final Verb f;
        final Verb g;
        final Verb h;
        final Grid array;
        final int parts;
        final int atoms;
        final long least;
        final long most;
        int leftRank;
        int rightRank;

        Verb(int sign) {
            this.kind = PLAIN;
            this.sign = sign;
            this.f = null;
            this.g = null;
            this.h = null;
            this.array = null;
            this.parts = 1;
            this.atoms = 0;
            this.least = 0;
            this.most = 0;
        }

        Verb(int kind, Verb f, Verb g, Verb h, Grid array) {
            this.kind = kind;
            this.sign = 0;
            this.f = f;
            this.g = g;
            this.h = h;
            this.array = array;
            int partsHere = 1;
            int atomsHere = 0;
            long low = 0;
            long high = 0;
            if (array != null) {
                partsHere++;
                atomsHere = array.size;
                for (int k = 0; k < array.size; k++) {
                    low = Math.min(low, array.store[array.at + k]);
                    high = Math.max(high, array.store[array.at + k]);
                }
            }
            for (int k = 0; k < 3; k++) {
                Verb part = k == 0 ? f : k == 1 ? g : h;
                if (part != null) {
                    partsHere += part.parts;
                    atomsHere += part.atoms;
                    low = Math.min(low, part.least);
                    high = Math.max(high, part.most);
                }
            }
            this.parts = partsHere;
            this.atoms = atomsHere;
            this.least = low;
            this.most = high;
        }

        /** How many of an array's axes are the frame for a rank. */
        static int frame(int rank, int axes) {
            return rank >= 0 ? axes - Math.min(rank, axes) : Math.min(-rank, axes);
        }

        /** How many of x's axes are the frame of x u/ y, u this verb. */
        int tableFrame(Grid x) {
            if (kind == PLAIN && sign <= ONE_LESS) {
                return x.rank;
            }
            return kind == RANK ? frame(leftRank, x.rank) : 0;
        }
    }

    /** The words of a line. */
    private static final class Words {
        final int[] kinds = new int[LINE_BYTES];
        /** The sign's code, or where a name or the numbers of a word begin. */
        final int[] from = new int[LINE_BYTES];
        /** How many bytes, or how many numbers. */
        final int[] many = new int[LINE_BYTES];
        final long[] numbers = new long[LINE_BYTES];
        int count;
        private int told;
        private final Heap heap;

        Words(Heap heap) {
            this.heap = heap;
        }

        void read(byte[] text, int size) {
            count = 0;
            told = 0;
            int at = 0;
            while (at < size) {
                int c = text[at];
                boolean dotted = at + 1 < size && isDot(text[at + 1]);
                int next = at + 1;
                if (isDigit(c) || c == '_') {
                    next = readNumber(text, at, size);
                } else if (isLetter(c) && !(dotted && (c == 'i' || c == 'e'))) {
                    next = readName(text, at, size);
                } else if (c != ' ') {
                    next = readSign(text, at, size);
                }
                at = Math.max(next, at + 1);
            }
        }

        private void add(int kind, int start, int length) {
            if (count < LINE_BYTES) {
                kinds[count] = kind;
                from[count] = start;
                many[count] = length;
                count++;
            }
        }

        private int readNumber(byte[] text, int start, int size) {
            boolean negative = text[start] == '_';
            int first = negative ? start + 1 : start;
            int at = first;
            long v = 0;
            boolean beyond = false;
            while (at < size && isDigit(text[at])) {
                beyond = beyond || v > LIMIT / 10;
                v = beyond ? 0 : v * 10 + (text[at] - '0');
                at++;
            }
            if (at == first) {
                heap.fail(ERROR_WORD);
            }
            if (beyond) {
                heap.fail(ERROR_NUMBER);
            }
            if (told < LINE_BYTES) {
                numbers[told] = heap.checked(negative ? -v : v);
                told++;
            }
            if (count > 0 && kinds[count - 1] == NOUN) {
                many[count - 1]++;
            } else {
                add(NOUN, told - 1, 1);
            }
            return at;
        }

        private int readName(byte[] text, int start, int size) {
            int at = start + 1;
            while (at < size && (isLetter(text[at]) || isDigit(text[at]))) {
                at++;
            }
            add(NAME, start, at - start);
            return at;
        }

        private int readSign(byte[] text, int start, int size) {
            int at = start + 1;
            while (at < size && isDot(text[at])) {
                at++;
            }
            int dot = at == start + 1 ? ' ' : text[start + 1];
            int code = at > start + 2 ? 0 : codeOf(text[start], dot);
            if (code == 0) {
                heap.fail(ERROR_WORD);
            }
            add(kindOf(code), code, 0);
            return at;
        }

        private static int codeOf(int c, int dot) {
            for (int k = 0; k + 1 < SIGNS.length(); k += 2) {
                if (SIGNS.charAt(k) == c && SIGNS.charAt(k + 1) == dot) {
                    return k / 2 + 1;
                }
            }
            return 0;
        }

        private static int kindOf(int code) {
            switch (code) {
                case SLASH: case BACKSLASH: case TILDE: return ADVERB;
                case QUOTE: case AMPERSAND: case AT_SIGN: return CONJUNCTION;
                case ASSIGN_SIGN: return ASSIGN;
                case OPEN_SIGN: return OPEN;
                case CLOSE_SIGN: return CLOSE;
                default: return VERB;
            }
        }

        private static boolean isDot(int c) {
            return c == '.' || c == ':';
        }

        static boolean isDigit(int c) {
            return c >= '0' && c <= '9';
        }

        static boolean isLetter(int c) {
            return c >= 'a' && c <= 'z' || c >= 'A' && c <= 'Z';
        }
    }

    /** The row that a line's words come to, and the names. */
    private static final class Row {
        private static final int LENGTH = LINE_BYTES + 1;

        final Heap heap = new Heap();
        private final Words words = new Words(heap);
        private final Player player = new Player(heap);
        // The row's beginning is at the end of these, where words come and go.
        private final int[] kinds = new int[LENGTH];
        private final int[] codes = new int[LENGTH];
        private final Grid[] grids = new Grid[LENGTH];
        private final Verb[] verbs = new Verb[LENGTH];
        private int height;
        private byte[] text;
        private final Verb[] plain = new Verb[SLASH];
        private final byte[][] nameTexts = new byte[MOST_NAMES][];
        private final Grid[] nameGrids = new Grid[MOST_NAMES];
        final Verb[] nameVerbs = new Verb[MOST_NAMES];
        int names;
        /** The latest line's array, if its value is one. */
        Grid value;
        boolean isVerb;

        /** Plays a line, with numbers of 32 bits if small: its error, or 0. */
        int play(byte[] tape, int size, boolean small) {
            heap.begin(small);
            value = null;
            isVerb = false;
            height = 0;
            text = tape;
            if (size > LINE_BYTES) {
                heap.error = ERROR_COUNT;
                return heap.error;
            }
            try {
                words.read(tape, size);
                for (int k = words.count - 1; k >= -1; k--) {
                    come(k);
                    boolean fits = true;
                    for (int r = 0; r < LENGTH && fits; r++) {
                        fits = rules();
                    }
                }
                end();
            } catch (IllegalStateException e) {
                value = null;
                isVerb = false;
            }
            return heap.error;
        }

        private void end() {
            boolean one = height == 2 && (kindAt(1) == NOUN || kindAt(1) == VERB);
            if (kindAt(0) != MARK || height != 1 && !one) {
                heap.fail(ERROR_ROW);
            }
            if (one && kindAt(1) == NOUN) {
                value = grids[0];
            }
            isVerb = one && kindAt(1) == VERB;
        }

        /** Word k comes ahead of the row; the mark, if there is no such word. */
        private void come(int k) {
            if (k < 0 || k >= words.count) {
                push(MARK, 0, null, null);
                return;
            }
            int kind = words.kinds[k];
            int from = words.from[k];
            if (kind == NOUN) {
                push(NOUN, 0, literal(from, words.many[k]), null);
            } else if (kind == NAME && kindAt(0) == ASSIGN) {
                push(NAME, k, null, null);
            } else if (kind == NAME) {
                comeName(find(text, from, words.many[k]));
            } else if (kind == VERB) {
                push(VERB, 0, null, plainVerb(from));
            } else {
                push(kind, from, null, null);
            }
        }

        private Grid literal(int from, int many) {
            if (many == 1) {
                return heap.single(words.numbers[from]);
            }
            Grid g = heap.list(many);
            System.arraycopy(words.numbers, from, g.store, g.at, many);
            return g;
        }

        private Verb plainVerb(int code) {
            if (plain[code] == null) {
                plain[code] = new Verb(code);
            }
            return plain[code];
        }

        private void comeName(int at) {
            if (at < 0) {
                heap.fail(ERROR_NAME);
                return;
            }
            Verb verb = nameVerbs[at];
            Grid grid = nameGrids[at];
            if (verb != null) {
                heap.checked(verb.least);
                heap.checked(verb.most);
                heap.pay(1 + verb.atoms);
                push(VERB, 0, null, verb);
            } else if (grid != null) {
                for (int k = 0; k < grid.size; k++) {
                    heap.checked(grid.store[grid.at + k]);
                }
                heap.pay(1 + grid.size);
                push(NOUN, 0, grid, null);
            }
        }

        private void push(int kind, int code, Grid grid, Verb verb) {
            if (height < LENGTH) {
                set(height, kind, code, grid, verb);
                height++;
            }
        }

        private void set(int at, int kind, int code, Grid grid, Verb verb) {
            kinds[at] = kind;
            codes[at] = code;
            grids[at] = grid;
            verbs[at] = verb;
        }

        private int kindAt(int k) {
            return k < height ? kinds[height - 1 - k] : NOTHING;
        }

        private Grid gridAt(int k) {
            return k < height ? grids[height - 1 - k] : null;
        }

        private Verb verbAt(int k) {
            return k < height ? verbs[height - 1 - k] : null;
        }

        private int codeAt(int k) {
            return k < height ? codes[height - 1 - k] : 0;
        }

        /** Does the first rule that fits the row's beginning; false if none does. */
        private boolean rules() {
            int a = kindAt(0);
            int b = kindAt(1);
            int c = kindAt(2);
            int d = kindAt(3);
            boolean edge = a == MARK || a == ASSIGN || a == OPEN;
            boolean front = edge || a == ADVERB || a == CONJUNCTION || a == NOUN || a == VERB;
            boolean second = b == NOUN || b == VERB;
            if (edge && b == VERB && c == NOUN) {
                replace(1, 2, player.use(verbAt(1), null, gridAt(2), 0), null);
            } else if (front && b == VERB && c == VERB && d == NOUN) {
                replace(2, 2, player.use(verbAt(2), null, gridAt(3), 0), null);
            } else if (front && b == NOUN && c == VERB && d == NOUN) {
                replace(1, 3, player.use(verbAt(2), gridAt(1), gridAt(3), 0), null);
            } else if (front && second && c == ADVERB) {
                replace(1, 2, null, limited(withAdverb()));
            } else if (front && second && c == CONJUNCTION && (d == NOUN || d == VERB)) {
                replace(1, 3, null, limited(withConjunction()));
            } else if (front && second && c == VERB && d == VERB) {
                replace(1, 3, null, limited(fork()));
            } else if (edge && b == VERB && c == VERB) {
                replace(1, 2, null, limited(new Verb(HOOK, verbAt(1), verbAt(2), null, null)));
            } else if (a == NAME && b == ASSIGN && (c == NOUN || c == VERB)) {
                Grid kept = c == NOUN ? heap.keep(gridAt(2)) : null;
                give(codeAt(0), kept, verbAt(2));
                replace(0, 3, kept, verbAt(2));
            } else if (a == OPEN && second && c == CLOSE) {
                replace(0, 3, gridAt(1), verbAt(1));
            } else {
                return false;
            }
            return true;
        }

        /** So many of the row, behind the first ones, become one array or verb. */
        private void replace(int first, int many, Grid grid, Verb verb) {
            int low = height - first - many;
            int moved = height - first;
            set(low, grid != null ? NOUN : VERB, 0, grid, verb);
            for (int k = 0; k < first; k++) {
                int from = moved + k;
                set(low + 1 + k, kinds[from], codes[from], grids[from], verbs[from]);
            }
            height = low + 1 + first;
        }

        private Verb limited(Verb v) {
            if (v.parts > MOST_PARTS || v.atoms > MOST_ATOMS) {
                heap.fail(ERROR_COUNT);
            }
            return v;
        }

        private Verb withAdverb() {
            if (kindAt(1) == NOUN) {
                heap.fail(ERROR_USE);
            }
            int sign = codeAt(2);
            int kind = sign == SLASH ? INSERT : sign == BACKSLASH ? PREFIXES : SWAP;
            return new Verb(kind, verbAt(1), null, null, null);
        }

        private Verb withConjunction() {
            boolean nounLeft = kindAt(1) == NOUN;
            boolean nounRight = kindAt(3) == NOUN;
            int sign = codeAt(2);
            if (sign == QUOTE) {
                return withRank(nounLeft || !nounRight);
            }
            if (nounLeft && nounRight || sign == AT_SIGN && (nounLeft || nounRight)) {
                heap.fail(ERROR_USE);
            }
            if (nounLeft) {
                return new Verb(BIND_LEFT, verbAt(3), null, null, heap.keep(gridAt(1)));
            }
            if (nounRight) {
                return new Verb(BIND_RIGHT, verbAt(1), null, null, heap.keep(gridAt(3)));
            }
            return new Verb(sign == AT_SIGN ? ATOP : OVER, verbAt(1), verbAt(3), null, null);
        }

        private Verb withRank(boolean wrong) {
            Grid n = gridAt(3);
            if (wrong || n == null || n.rank > 1 || n.rank == 1 && n.size != 2) {
                heap.fail(ERROR_USE);
                return null;
            }
            for (int k = 0; k < n.size; k++) {
                long r = n.store[n.at + k];
                if (r < -MOST_AXES || r > MOST_AXES) {
                    heap.fail(ERROR_USE);
                }
            }
            Verb v = new Verb(RANK, verbAt(1), null, null, null);
            v.leftRank = (int) n.store[n.at];
            v.rightRank = (int) n.store[n.at + n.size - 1];
            return v;
        }

        private Verb fork() {
            if (kindAt(1) == NOUN) {
                return new Verb(ARRAY_FORK, null, verbAt(2), verbAt(3), heap.keep(gridAt(1)));
            }
            return new Verb(FORK, verbAt(1), verbAt(2), verbAt(3), null);
        }

        /** The name that is word k gets a value. */
        private void give(int k, Grid grid, Verb verb) {
            int from = words.from[k];
            int many = words.many[k];
            int at = find(text, from, many);
            if (at < 0) {
                if (names >= MOST_NAMES) {
                    heap.fail(ERROR_COUNT);
                    return;
                }
                at = names;
                nameTexts[at] = Arrays.copyOfRange(text, from, from + many);
                names++;
            }
            nameGrids[at] = grid;
            nameVerbs[at] = verb;
        }

        /** Where the names have the bytes from one on; -1 if they don't. */
        int find(byte[] tape, int from, int many) {
            for (int k = 0; k < names; k++) {
                byte[] name = nameTexts[k];
                boolean same = name != null && name.length == many;
                for (int j = 0; same && j < many; j++) {
                    same = name[j] == tape[from + j];
                }
                if (same) {
                    return k;
                }
            }
            return -1;
        }
    }

    /** Uses verbs. A null x means that y stands alone. */
    private static final class Player {
        private final Heap heap;
        private final Atoms atoms;
        private final Items items;

        Player(Heap heap) {
            this.heap = heap;
            this.atoms = new Atoms(heap);
            this.items = new Items(heap);
        }

        /** A use of a verb; the limit of its parts keeps the depth low. */
        Grid use(Verb v, Grid x, Grid y, int depth) {
            if (v == null || y == null || depth > MOST_PARTS) {
                heap.fail(ERROR_COUNT);
                return y;
            }
            int mark = heap.top;
            Grid r = heap.settle(mark, used(v, x, y, depth + 1));
            heap.pay(1 + r.size);
            return r;
        }

        private Grid used(Verb v, Grid x, Grid y, int depth) {
            boolean alone = x == null;
            switch (v.kind) {
                case PLAIN:
                    if (v.sign <= ONE_LESS) {
                        return alone ? atoms.alone(v.sign, y) : atoms.both(v.sign, x, y);
                    }
                    return alone ? items.alone(v.sign, y) : items.both(v.sign, x, y);
                case INSERT:
                    return alone ? insert(v.f, y, depth)
                            : overCells(v.f, x, v.f.tableFrame(x), y, 0, depth);
                case PREFIXES:
                    refuse(!alone);
                    return prefixes(v.f, y, depth);
                case SWAP:
                    return use(v.f, y, alone ? y : x, depth);
                case RANK:
                    return overCells(v.f, x, alone ? 0 : Verb.frame(v.leftRank, x.rank),
                            y, Verb.frame(v.rightRank, y.rank), depth);
                case BIND_LEFT:
                    refuse(!alone);
                    return use(v.f, v.array, y, depth);
                case BIND_RIGHT:
                    refuse(!alone);
                    return use(v.f, y, v.array, depth);
                case OVER: {
                    Grid right = use(v.g, null, y, depth);
                    return use(v.f, alone ? null : use(v.g, null, x, depth), right, depth);
                }
                case ATOP:
                    return use(v.f, null, use(v.g, x, y, depth), depth);
                case FORK: {
                    Grid right = use(v.h, x, y, depth);
                    return use(v.g, use(v.f, x, y, depth), right, depth);
                }
                case ARRAY_FORK:
                    return use(v.g, v.array, use(v.h, x, y, depth), depth);
                default:
                    return use(v.f, alone ? y : x, use(v.g, null, y, depth), depth);
            }
        }

        private void refuse(boolean noSuchUse) {
            if (noSuchUse) {
                heap.fail(ERROR_USE);
            }
        }

        /** u between y's items. */
        private Grid insert(Verb u, Grid y, int depth) {
            int n = y.items();
            if (y.rank == 0) {
                return y;
            }
            if (n == 0) {
                return neutral(u, y);
            }
            Grid result = heap.blank();
            Grid item = heap.blank();
            result.beCell(y, 1, n - 1);
            int mark = heap.top;
            for (int k = n - 2; k >= 0; k--) {
                item.beCell(y, 1, k);
                result.be(use(u, item, result, depth));
                heap.top = mark;
            }
            return result;
        }

        /** What u between no items is. */
        private Grid neutral(Verb u, Grid y) {
            boolean plain = u.kind == PLAIN;
            boolean zero = u.sign == ADD || u.sign == SUBTRACT || u.sign == DIVISOR;
            if (!plain || !zero && u.sign != MULTIPLY) {
                heap.fail(ERROR_ITEM);
            }
            Grid item = heap.blank();
            item.beCell(y, 1, 0);
            Grid r = heap.like(item);
            Arrays.fill(r.store, r.at, r.at + r.size, zero ? 0 : 1);
            return r;
        }

        /** u of y's first item, of the first two, and so on. */
        private Grid prefixes(Verb u, Grid y, int depth) {
            Grid part = heap.blank();
            part.be(y);
            if (y.rank == 0) {
                part.beList(1);
            }
            int n = part.items();
            int itemSize = part.itemSize();
            if (n == 0) {
                heap.fail(ERROR_ITEM);
            }
            Grid out = heap.blank();
            Grid first = heap.blank();
            out.beFrame(part, 1);
            int mark = heap.top;
            boolean even = true;
            for (int k = 0; k < n; k++) {
                part.axes[0] = k + 1;
                part.size = (k + 1) * itemSize;
                boolean alike = putIn(out, first, use(u, null, part, depth), k);
                even = even && alike;
                heap.top = mark;
            }
            return together(out, n, even);
        }

        /** u on cells behind so many axes of x, if there is one, and of y. */
        private Grid overCells(Verb u, Grid x, int xFrame, Grid y, int yFrame, int depth) {
            int frame = Math.max(xFrame, yFrame);
            for (int k = 0; x != null && k < xFrame && k < yFrame; k++) {
                if (x.axes[k] != y.axes[k]) {
                    heap.fail(ERROR_SHAPE);
                }
            }
            Grid out = heap.blank();
            out.beFrame(x != null && xFrame > yFrame ? x : y, frame);
            Grid first = heap.blank();
            Grid xCell = heap.blank();
            Grid yCell = heap.blank();
            int n = out.size;
            int xTimes = Math.max(out.span(xFrame, frame), 1);
            int yTimes = Math.max(out.span(yFrame, frame), 1);
            int mark = heap.top;
            boolean even = true;
            for (int k = 0; k < n; k++) {
                if (x != null) {
                    xCell.beCell(x, xFrame, k / xTimes);
                }
                yCell.beCell(y, yFrame, k / yTimes);
                Grid r = use(u, x == null ? null : xCell, yCell, depth);
                boolean alike = putIn(out, first, r, k);
                even = even && alike;
                heap.top = mark;
            }
            return together(out, n, even);
        }

        /** Result k joins those before; false if its shape is another one. */
        private boolean putIn(Grid out, Grid first, Grid r, int k) {
            if (k == 0) {
                first.be(r);
                if (out.grow(r, 0)) {
                    heap.room(out);
                }
            }
            if (!first.sameFrom(0, r, 0)) {
                return false;
            }
            if (out.store != null) {
                System.arraycopy(r.store, r.at, out.store, out.at + k * r.size, r.size);
            }
            return true;
        }

        /** The results put together; without memory they were too large. */
        private Grid together(Grid out, int n, boolean even) {
            if (!even) {
                heap.fail(ERROR_SHAPE);
            }
            if (n == 0) {
                heap.room(out);
            }
            if (out.store == null) {
                heap.fail(ERROR_SIZE);
            }
            return out;
        }
    }

    /** The verbs that work on atoms. */
    private static final class Atoms {
        private final Heap heap;

        Atoms(Heap heap) {
            this.heap = heap;
        }

        Grid alone(int sign, Grid y) {
            if (!standsAlone(sign)) {
                heap.fail(ERROR_USE);
            }
            Grid r = heap.like(y);
            for (int k = 0; k < y.size; k++) {
                r.store[r.at + k] = heap.checked(ofOne(sign, y.store[y.at + k]));
            }
            return r;
        }

        private static boolean standsAlone(int sign) {
            switch (sign) {
                case DIVIDE: case POWER: case BELOW: case SAME:
                case ABOVE: case OTHER: case DIVISOR: case MULTIPLE:
                    return false;
                default:
                    return true;
            }
        }

        private static long ofOne(int sign, long y) {
            switch (sign) {
                case SUBTRACT: return -y;
                case MULTIPLY: return Long.signum(y);
                case REST: return Math.abs(y);
                case NOT_ABOVE: return y - 1;
                case NOT_BELOW: return y + 1;
                case ONE_LESS: return 1 - y;
                default: return y;
            }
        }

        Grid both(int sign, Grid x, Grid y) {
            if (sign == ONE_LESS) {
                heap.fail(ERROR_USE);
            }
            boolean xLonger = x.rank > y.rank;
            Grid longer = xLonger ? x : y;
            Grid shorter = xLonger ? y : x;
            for (int k = 0; k < shorter.rank; k++) {
                if (longer.axes[k] != shorter.axes[k]) {
                    heap.fail(ERROR_SHAPE);
                }
            }
            Grid r = heap.like(longer);
            int times = longer.span(shorter.rank, longer.rank);
            for (int k = 0; k < shorter.size; k++) {
                long one = shorter.store[shorter.at + k];
                for (int j = k * times; j < (k + 1) * times; j++) {
                    long other = longer.store[longer.at + j];
                    long made = xLonger ? ofTwo(sign, other, one) : ofTwo(sign, one, other);
                    r.store[r.at + j] = heap.checked(made);
                }
            }
            return r;
        }

        private long ofTwo(int sign, long x, long y) {
            switch (sign) {
                case ADD: return x + y;
                case SUBTRACT: return x - y;
                case MULTIPLY: return times(x, y);
                case DIVIDE: return quotient(x, y);
                case POWER: return power(x, y);
                case REST: return x == 0 ? y : Math.floorMod(y, x);
                case BELOW: return x < y ? 1 : 0;
                case SAME: return x == y ? 1 : 0;
                case ABOVE: return x > y ? 1 : 0;
                case OTHER: return x != y ? 1 : 0;
                case NOT_ABOVE: return x <= y ? 1 : 0;
                case NOT_BELOW: return x >= y ? 1 : 0;
                case LESSER: return Math.min(x, y);
                case GREATER: return Math.max(x, y);
                case DIVISOR: return divisor(x, y);
                default: {
                    long d = divisor(x, y);
                    return x == 0 || y == 0 || d == 0 ? 0 : times(Math.abs(x) / d, Math.abs(y));
                }
            }
        }

        private long times(long x, long y) {
            if (x == 0 || y == 0) {
                return 0;
            }
            if (Math.abs(y) > LIMIT / Math.abs(x)) {
                heap.fail(ERROR_NUMBER);
            }
            return x * y;
        }

        private long quotient(long x, long y) {
            if (y == 0) {
                heap.fail(ERROR_USE);
                return 0;
            }
            return Math.floorDiv(x, y);
        }

        private long power(long x, long y) {
            if (y < 0) {
                heap.fail(ERROR_USE);
            }
            if (y == 0 || x == 1) {
                return 1;
            }
            if (x == 0 || x == -1) {
                return (y & 1) == 0 ? -x : x;
            }
            long most = LIMIT / Math.abs(x);
            long made = 1;
            // A size of 2 or more is beyond all numbers long before the last round.
            for (int k = 0; k < y && k < 64; k++) {
                if (Math.abs(made) > most) {
                    heap.fail(ERROR_NUMBER);
                }
                made *= x;
            }
            return made;
        }

        private static long divisor(long x, long y) {
            long a = Math.abs(x);
            long b = Math.abs(y);
            // Each two rounds halve the greater one, so 62 bits need fewer rounds than this.
            for (int k = 0; k < 200 && b != 0; k++) {
                long rest = a % b;
                a = b;
                b = rest;
            }
            return a;
        }
    }

    /** The verbs that work on the whole. */
    private static final class Items {
        private static final int NOWHERE = -1;
        /** So few cells are found sooner without sorting what they are sought in. */
        private static final int FEW = 12;

        private final Heap heap;
        private final int[] places = new int[MOST_ATOMS];
        private final int[] sorted = new int[MOST_ATOMS];
        private final int[] spare = new int[MOST_ATOMS];
        private final int[] strides = new int[MOST_AXES];
        private final int[] counters = new int[MOST_AXES];

        Items(Heap heap) {
            this.heap = heap;
        }

        Grid alone(int sign, Grid y) {
            switch (sign) {
                case SHAPE: return shapeOf(y);
                case COUNT: return heap.single(y.items());
                case JOIN: return ravel(y);
                case PLACE: return countUp(y);
                case TAKE: return firstItem(y);
                case DROP: return without(1, y);
                case TURN: return backwards(asList(y));
                case AXES: return turnAxes(y);
                case UP: return orderOf(asList(y), false);
                case DOWN: return orderOf(asList(y), true);
                case UNIQUE: return unique(asList(y));
                case LEFT: case RIGHT: return y;
                default:
                    heap.fail(ERROR_USE);
                    return y;
            }
        }

        Grid both(int sign, Grid x, Grid y) {
            switch (sign) {
                case SHAPE: return reshape(x, y);
                case COUNT: return copies(x, asList(y));
                case JOIN: return join(x, y);
                case PLACE: return search(asList(x), y, false);
                case TAKE: return take(onlyAtom(x), asList(y));
                case DROP: return without(onlyAtom(x), y);
                case FROM: return from(x, asList(y));
                case TURN: return turned(onlyAtom(x), asList(y));
                case UP: return sortBy(asList(x), asList(y), false);
                case DOWN: return sortBy(asList(x), asList(y), true);
                case MEMBER: return search(asList(y), x, true);
                case LEFT: return x;
                case RIGHT: return y;
                default:
                    heap.fail(ERROR_USE);
                    return y;
            }
        }

        private long onlyAtom(Grid x) {
            if (x.rank != 0) {
                heap.fail(ERROR_SHAPE);
            }
            return x.store[x.at];
        }

        private Grid asList(Grid y) {
            return y.rank == 0 ? ravel(y) : y;
        }

        private Grid ravel(Grid y) {
            Grid r = heap.blank();
            r.be(y);
            r.beList(y.size);
            return r;
        }

        private Grid shapeOf(Grid y) {
            Grid r = heap.list(y.rank);
            for (int k = 0; k < y.rank; k++) {
                r.store[r.at + k] = y.axes[k];
            }
            return r;
        }

        private Grid reshape(Grid x, Grid y) {
            if (x.rank > 1) {
                heap.fail(ERROR_SHAPE);
            }
            for (int k = 0; k < x.size; k++) {
                if (x.store[x.at + k] < 0) {
                    heap.fail(ERROR_USE);
                }
            }
            Grid r = heap.blank();
            r.rank = x.size;
            boolean fits = x.size <= MOST_AXES;
            for (int k = 0; fits && k < x.size; k++) {
                long n = x.store[x.at + k];
                fits = n <= MOST_ATOMS;
                r.axes[k] = fits ? (int) n : 0;
            }
            if (!fits || !r.measure()) {
                heap.fail(ERROR_SIZE);
            }
            if (r.size > 0 && y.size == 0) {
                heap.fail(ERROR_SHAPE);
            }
            heap.room(r);
            int from = 0;
            for (int k = 0; k < r.size; k++) {
                r.store[r.at + k] = y.store[y.at + from];
                from = from + 1 < y.size ? from + 1 : 0;
            }
            return r;
        }

        /** A header like y's, with so many items instead. */
        private Grid withItems(Grid y, long n) {
            Grid r = heap.blank();
            r.be(y);
            boolean fits = n <= MOST_ATOMS;
            r.axes[0] = fits ? (int) n : 0;
            if (!fits || !r.measure()) {
                heap.fail(ERROR_SIZE);
            }
            return r;
        }

        /** Fills r with so many items of y, by their places; zeros stand where there is none. */
        private Grid fill(Grid r, Grid y, int[] which, int n) {
            heap.room(r);
            int size = y.itemSize();
            for (int k = 0; k < n; k++) {
                int to = r.at + k * size;
                if (which[k] == NOWHERE) {
                    Arrays.fill(r.store, to, to + size, 0);
                } else {
                    System.arraycopy(y.store, y.at + which[k] * size, r.store, to, size);
                }
            }
            return r;
        }

        private Grid copies(Grid x, Grid y) {
            int n = y.axes[0];
            if (x.rank > 1 || x.rank == 1 && x.size != n) {
                heap.fail(ERROR_SHAPE);
            }
            for (int k = 0; k < x.size; k++) {
                if (x.store[x.at + k] < 0) {
                    heap.fail(ERROR_USE);
                }
            }
            long total = 0;
            for (int k = 0; k < n; k++) {
                total += Math.min(x.store[x.at + (x.rank == 0 ? 0 : k)], MOST_ATOMS + 1);
            }
            Grid r = withItems(y, total);
            int to = 0;
            for (int k = 0; k < n; k++) {
                long times = x.store[x.at + (x.rank == 0 ? 0 : k)];
                for (long j = 0; j < times && to < MOST_ATOMS; j++) {
                    places[to] = k;
                    to++;
                }
            }
            return fill(r, y, places, to);
        }

        private Grid join(Grid x, Grid y) {
            if (x.rank == 0 && y.rank == 0) {
                Grid r = heap.list(2);
                r.store[r.at] = x.store[x.at];
                r.store[r.at + 1] = y.store[y.at];
                return r;
            }
            Grid base = x.rank >= y.rank ? x : y;
            if (!joins(x, base) || !joins(y, base)) {
                heap.fail(ERROR_SHAPE);
            }
            int xItems = x.rank == base.rank ? x.axes[0] : 1;
            int yItems = y.rank == base.rank ? y.axes[0] : 1;
            Grid r = withItems(base, xItems + yItems);
            heap.room(r);
            int size = base.itemSize();
            lay(x, r, 0, xItems * size);
            lay(y, r, xItems * size, yItems * size);
            return r;
        }

        private static boolean joins(Grid g, Grid base) {
            if (g.rank == 0) {
                return true;
            }
            return g.rank == base.rank ? g.sameFrom(1, base, 1) : g.sameFrom(0, base, 1);
        }

        /** Lays g's atoms, or an atom as often as needed, in r from one on. */
        private static void lay(Grid g, Grid r, int from, int many) {
            int to = r.at + from;
            if (g.rank == 0) {
                Arrays.fill(r.store, to, to + many, g.store[g.at]);
            } else {
                System.arraycopy(g.store, g.at, r.store, to, many);
            }
        }

        private Grid countUp(Grid y) {
            long n = onlyAtom(y);
            if (n < 0) {
                heap.fail(ERROR_USE);
            }
            if (n > MOST_ATOMS) {
                heap.fail(ERROR_SIZE);
            }
            Grid r = heap.list((int) n);
            for (int k = 0; k < r.size; k++) {
                r.store[r.at + k] = k;
            }
            return r;
        }

        private Grid firstItem(Grid y) {
            if (y.rank == 0) {
                return y;
            }
            if (y.axes[0] == 0) {
                heap.fail(ERROR_ITEM);
            }
            Grid r = heap.blank();
            r.beCell(y, 1, 0);
            return r;
        }

        private Grid take(long x, Grid y) {
            int n = y.axes[0];
            Grid r = withItems(y, Math.abs(x));
            int many = r.axes[0];
            int shift = x < 0 ? n - many : 0;
            for (int k = 0; k < many; k++) {
                int from = k + shift;
                places[k] = from >= 0 && from < n ? from : NOWHERE;
            }
            return fill(r, y, places, many);
        }

        private Grid without(long x, Grid y) {
            Grid r = heap.blank();
            r.be(y);
            if (y.rank == 0) {
                r.beList(1);
            }
            int n = r.axes[0];
            int gone = (int) Math.min(Math.abs(x), n);
            int size = r.itemSize();
            r.axes[0] = n - gone;
            r.size = (n - gone) * size;
            r.at += x > 0 ? gone * size : 0;
            return r;
        }

        private Grid from(Grid x, Grid y) {
            int n = y.axes[0];
            for (int k = 0; k < x.size; k++) {
                long at = x.store[x.at + k];
                at = at < 0 ? at + n : at;
                if (at < 0 || at >= n) {
                    heap.fail(ERROR_ITEM);
                }
                places[k] = (int) at;
            }
            Grid r = heap.blank();
            r.beFrame(x, x.rank);
            if (!r.grow(y, 1)) {
                heap.fail(ERROR_SIZE);
            }
            return fill(r, y, places, x.size);
        }

        private Grid backwards(Grid y) {
            int n = y.axes[0];
            for (int k = 0; k < n; k++) {
                places[k] = n - 1 - k;
            }
            return fill(withItems(y, n), y, places, n);
        }

        private Grid turned(long x, Grid y) {
            int n = y.axes[0];
            int from = n == 0 ? 0 : (int) Math.floorMod(x, (long) n);
            for (int k = 0; k < n; k++) {
                places[k] = from;
                from = from + 1 < n ? from + 1 : 0;
            }
            return fill(withItems(y, n), y, places, n);
        }

        private Grid turnAxes(Grid y) {
            if (y.rank < 2) {
                return y;
            }
            Grid r = heap.blank();
            r.be(y);
            int stride = 1;
            for (int k = 0; k < y.rank; k++) {
                r.axes[y.rank - 1 - k] = y.axes[k];
                strides[k] = stride;
                counters[k] = 0;
                stride *= y.axes[k];
            }
            heap.room(r);
            int to = r.at;
            for (int n = 0; n < y.size; n++) {
                r.store[to] = y.store[y.at + n];
                boolean carry = true;
                for (int k = y.rank - 1; k >= 0 && carry; k--) {
                    counters[k]++;
                    to += strides[k];
                    carry = counters[k] == y.axes[k];
                    if (carry) {
                        to -= strides[k] * y.axes[k];
                        counters[k] = 0;
                    }
                }
            }
            return r;
        }

        private Grid orderOf(Grid y, boolean down) {
            int n = y.axes[0];
            int[] order = grade(y, down);
            Grid r = heap.list(n);
            for (int k = 0; k < n; k++) {
                r.store[r.at + k] = order[k];
            }
            return r;
        }

        private Grid sortBy(Grid x, Grid y, boolean down) {
            int n = y.axes[0];
            if (x.axes[0] != n) {
                heap.fail(ERROR_SHAPE);
            }
            return fill(withItems(x, n), x, grade(y, down), n);
        }

        private Grid unique(Grid y) {
            int n = y.axes[0];
            int size = y.itemSize();
            int[] order = grade(y, false);
            for (int k = 0; k < n; k++) {
                places[k] = k;
            }
            for (int k = 1; k < n; k++) {
                if (compare(y, order[k - 1] * size, y, order[k] * size, size) == 0) {
                    places[order[k]] = NOWHERE;
                }
            }
            int many = 0;
            for (int k = 0; k < n; k++) {
                if (places[k] != NOWHERE) {
                    places[many] = k;
                    many++;
                }
            }
            return fill(withItems(y, many), y, places, many);
        }

        /**
         * Seeks each cell of y among x's items: the least place, or how many items there are if none
         * is it; or, if only asked, 1 or 0.
         */
        private Grid search(Grid x, Grid y, boolean asked) {
            int frame = y.rank - (x.rank - 1);
            int none = asked ? 0 : x.axes[0];
            Grid r = heap.blank();
            r.beFrame(y, Math.max(frame, 0));
            heap.room(r);
            Arrays.fill(places, 0, r.size, NOWHERE);
            if (frame >= 0 && y.sameFrom(frame, x, 1)) {
                if (r.size > FEW) {
                    searchSorted(x, y, r.size);
                } else {
                    searchAll(x, y, r.size);
                }
            }
            for (int k = 0; k < r.size; k++) {
                r.store[r.at + k] = places[k] == NOWHERE ? none : asked ? 1 : places[k];
            }
            return r;
        }

        private void searchAll(Grid x, Grid y, int cells) {
            int n = x.axes[0];
            int size = x.itemSize();
            for (int k = 0; k < cells; k++) {
                for (int j = 0; j < n && places[k] == NOWHERE; j++) {
                    places[k] = compare(x, j * size, y, k * size, size) == 0 ? j : NOWHERE;
                }
            }
        }

        /** Of items alike, the least place stands first in their order. */
        private void searchSorted(Grid x, Grid y, int cells) {
            int n = x.axes[0];
            int size = x.itemSize();
            int[] order = grade(x, false);
            for (int k = 0; k < cells; k++) {
                int low = 0;
                int high = n;
                for (int step = 0; step < 32 && low < high; step++) {
                    int middle = (low + high) / 2;
                    boolean before = compare(x, order[middle] * size, y, k * size, size) < 0;
                    low = before ? middle + 1 : low;
                    high = before ? high : middle;
                }
                if (low < n && compare(x, order[low] * size, y, k * size, size) == 0) {
                    places[k] = order[low];
                }
            }
        }

        /** The places of y's items in order, those alike as they stand: a sort by merging. */
        private int[] grade(Grid y, boolean down) {
            int n = y.axes[0];
            int size = y.itemSize();
            int[] from = sorted;
            int[] to = spare;
            for (int k = 0; k < n; k++) {
                from[k] = k;
            }
            for (int wide = 1; wide < n; wide *= 2) {
                for (int low = 0; low < n; low += 2 * wide) {
                    int middle = Math.min(low + wide, n);
                    int high = Math.min(low + 2 * wide, n);
                    int i = low;
                    int j = middle;
                    for (int k = low; k < high; k++) {
                        boolean left = j >= high;
                        if (i < middle && j < high) {
                            int c = compare(y, from[i] * size, y, from[j] * size, size);
                            left = down ? c >= 0 : c <= 0;
                        }
                        to[k] = left ? from[i] : from[j];
                        i += left ? 1 : 0;
                        j += left ? 0 : 1;
                    }
                }
                int[] swap = from;
                from = to;
                to = swap;
            }
            return from;
        }

        /** Compares so many atoms of two arrays, one by one. */
        private static int compare(Grid a, int aFrom, Grid b, int bFrom, int many) {
            for (int k = 0; k < many; k++) {
                long p = a.store[a.at + aFrom + k];
                long q = b.store[b.at + bFrom + k];
                if (p != q) {
                    return p < q ? -1 : 1;
                }
            }
            return 0;
        }
    }

    /** The vector machine: its memory, and the words of RV32IM. */
    private static final class Machine {
        static final int RUNS = 0;
        private static final int STOPPED = 1;
        private static final int FAULT = 2;
        private static final int EBREAK = 0x00100073;
        private static final int HIGH = 0xfffff000;

        final int[] x = new int[32];
        final int[] memory = new int[MEMORY_BYTES / 4];
        final Vectors vectors = new Vectors(x, memory);
        int pc;
        int state;
        private int next;

        void begin(int elements) {
            Arrays.fill(x, 0);
            Arrays.fill(memory, 0);
            vectors.begin(elements);
            pc = 0;
            state = RUNS;
        }

        /** Takes a program: so many words, from byte 0 on. */
        void take(int[] words, int many) {
            System.arraycopy(words, 0, memory, 0, many);
            pc = 0;
            state = RUNS;
        }

        void put(int k, int v) {
            if (k != 0) {
                x[k] = v;
            }
        }

        /** Whether so many bytes (1, 2 or 4) lie in the memory and at a multiple of their number. */
        static boolean within(int address, int bytes) {
            return address >= 0 && address <= MEMORY_BYTES - bytes && (address & bytes - 1) == 0;
        }

        void step() {
            if (!within(pc, 4)) {
                state = FAULT;
                return;
            }
            int w = memory[pc >> 2];
            int rd = w >>> 7 & 31;
            next = pc + 4;
            if (w == EBREAK) {
                state = STOPPED;
                return;
            }
            // Each of these does nothing at all if it answers false.
            boolean done;
            switch (w & 127) {
                case 0x37: done = give(rd, w & HIGH); break;
                case 0x17: done = give(rd, pc + (w & HIGH)); break;
                case 0x6f: done = leap(rd, pc + jumpWay(w)); break;
                case 0x67: done = leapTo(w); break;
                case 0x63: done = branch(w); break;
                case 0x03: done = load(w); break;
                case 0x23: done = store(w); break;
                case 0x13: done = withNumber(w); break;
                case 0x33: done = withRegister(w); break;
                case 0x57: done = vectors.run(w); break;
                case 0x07: done = vectors.transfer(w, false); break;
                case 0x27: done = vectors.transfer(w, true); break;
                default: done = false; break;
            }
            state = done ? RUNS : FAULT;
            pc = done ? next : pc;
        }

        private boolean give(int rd, int value) {
            put(rd, value);
            return true;
        }

        private boolean leapTo(int w) {
            int aim = x[w >>> 15 & 31] + (w >> 20);
            return (w >>> 12 & 7) == 0 && leap(w >>> 7 & 31, aim & ~1);
        }

        private static int jumpWay(int w) {
            return w >> 31 << 20 | w & 0xff000 | w >>> 9 & 0x800 | w >>> 20 & 0x7fe;
        }

        private static int branchWay(int w) {
            return w >> 31 << 12 | w << 4 & 0x800 | w >>> 20 & 0x7e0 | w >>> 7 & 0x1e;
        }

        private boolean leap(int rd, int aim) {
            if ((aim & 3) != 0) {
                return false;
            }
            put(rd, next);
            next = aim;
            return true;
        }

        private boolean branch(int w) {
            int a = x[w >>> 15 & 31];
            int b = x[w >>> 20 & 31];
            boolean taken;
            switch (w >>> 12 & 7) {
                case 0: taken = a == b; break;
                case 1: taken = a != b; break;
                case 4: taken = a < b; break;
                case 5: taken = a >= b; break;
                case 6: taken = Integer.compareUnsigned(a, b) < 0; break;
                case 7: taken = Integer.compareUnsigned(a, b) >= 0; break;
                default: return false;
            }
            return !taken || leap(0, pc + branchWay(w));
        }

        private boolean load(int w) {
            int kind = w >>> 12 & 7;
            int address = x[w >>> 15 & 31] + (w >> 20);
            if (kind == 3 || kind > 5 || !within(address, 1 << (kind & 3))) {
                return false;
            }
            int bits = memory[address >> 2] >>> 8 * (address & 3);
            switch (kind) {
                case 0: bits = (byte) bits; break;
                case 1: bits = (short) bits; break;
                case 4: bits &= 0xff; break;
                case 5: bits &= 0xffff; break;
                default: break;
            }
            return give(w >>> 7 & 31, bits);
        }

        private boolean store(int w) {
            int kind = w >>> 12 & 7;
            int address = x[w >>> 15 & 31] + (w >> 25 << 5 | w >>> 7 & 31);
            if (kind > 2 || !within(address, 1 << kind)) {
                return false;
            }
            int shift = 8 * (address & 3);
            int mask = (kind == 0 ? 0xff : kind == 1 ? 0xffff : -1) << shift;
            int old = memory[address >> 2];
            memory[address >> 2] = old & ~mask | x[w >>> 20 & 31] << shift & mask;
            return true;
        }

        private boolean withNumber(int w) {
            int kind = w >>> 12 & 7;
            int b = w >> 20;
            int high = w >>> 25;
            boolean other = kind == 5 && high == 0x20;
            if ((kind == 1 || kind == 5) && high != 0 && !other) {
                return false;
            }
            return give(w >>> 7 & 31, basic(kind, other, x[w >>> 15 & 31], b));
        }

        private boolean withRegister(int w) {
            int kind = w >>> 12 & 7;
            int high = w >>> 25;
            int a = x[w >>> 15 & 31];
            int b = x[w >>> 20 & 31];
            boolean other = high == 0x20 && (kind == 0 || kind == 5);
            if (high > 1 && !other) {
                return false;
            }
            return give(w >>> 7 & 31, high == 1 ? multiplied(kind, a, b) : basic(kind, other, a, b));
        }

        /** The words of one funct3; other: the one with bit 30. */
        private static int basic(int kind, boolean other, int a, int b) {
            switch (kind) {
                case 0: return other ? a - b : a + b;
                case 1: return a << (b & 31);
                case 2: return a < b ? 1 : 0;
                case 3: return Integer.compareUnsigned(a, b) < 0 ? 1 : 0;
                case 4: return a ^ b;
                case 5: return other ? a >> (b & 31) : a >>> (b & 31);
                case 6: return a | b;
                default: return a & b;
            }
        }

        /** MUL, MULH, MULHSU, MULHU, DIV, DIVU, REM, REMU by their funct3. */
        static int multiplied(int kind, int a, int b) {
            long wideA = a & UNSIGNED;
            long wideB = b & UNSIGNED;
            switch (kind) {
                case 0: return a * b;
                case 1: return (int) ((long) a * b >> 32);
                case 2: return (int) (a * wideB >> 32);
                case 3: return (int) (wideA * wideB >>> 32);
                case 4: return b == 0 ? -1 : b == -1 ? -a : a / b;
                case 5: return b == 0 ? -1 : (int) (wideA / wideB);
                case 6: return b == 0 ? a : b == -1 ? 0 : a % b;
                default: return b == 0 ? a : (int) (wideA % wideB);
            }
        }
    }

    /** The machine's vector registers and vector words. */
    private static final class Vectors {
        /** By funct6, the uses that there are: 1 .vv, 2 .vx, 4 .vi (funct3 0, 4, 3). */
        private static final byte[] FORMS = {
            7, 0, 3, 6, 3, 3, 3, 3, 0, 7, 7, 7, 7, 0, 6, 6,
            0, 0, 0, 0, 0, 0, 0, 7, 7, 7, 3, 3, 7, 7, 6, 6,
            0, 0, 0, 0, 0, 7, 0, 0, 7, 7, 0, 0, 0, 0, 0, 0,
            0, 0, 0, 0, 0, 0, 0, 0, 0, 0, 0, 0, 0, 0, 0, 0};
        /** The scalar words' funct3 for the funct6 from 32 on. */
        private static final byte[] SCALAR = {5, 4, 7, 6, 3, 0, 2, 1};
        private static final int GATHER = 12;
        private static final int SLIDE_UP = 14;
        private static final int SLIDE_DOWN = 15;
        private static final int MOVE = 16;
        private static final int STEPS = 20;
        private static final int MERGE = 23;
        private static final int EQUAL = 24;
        private static final int MOST_COMPARISON = 31;

        private final int[] x;
        private final int[] memory;
        /** Register k's element i is at k times wide and i, so that groups lie in one piece. */
        final int[] v = new int[32 * 16];
        private final int[] made = new int[MOST_ELEMENTS];
        int wide = 4;
        int length;
        int group = 1;

        Vectors(int[] x, int[] memory) {
            this.x = x;
            this.memory = memory;
        }

        void begin(int elements) {
            Arrays.fill(v, 0);
            wide = elements;
            length = 0;
            group = 1;
        }

        private static int vd(int w) {
            return w >>> 7 & 31;
        }

        private static int vs1(int w) {
            return w >>> 15 & 31;
        }

        private static int vs2(int w) {
            return w >>> 20 & 31;
        }

        private static boolean masked(int w) {
            return (w >>> 25 & 1) == 0;
        }

        private boolean isGroup(int k) {
            return (k & group - 1) == 0;
        }

        /** Whether vd may take a word's elements: a group, and not the mask itself. */
        private boolean takesGroup(int w) {
            return isGroup(vd(w)) && !(masked(w) && vd(w) == 0);
        }

        private boolean bit(int k, int i) {
            return (v[k * wide + i / 32] >>> i % 32 & 1) == 1;
        }

        private void setBit(int k, int i, boolean on) {
            int at = k * wide + i / 32;
            int one = 1 << i % 32;
            v[at] = on ? v[at] | one : v[at] & ~one;
        }

        private boolean active(int w, int i) {
            return !masked(w) || bit(0, i);
        }

        private void putScalar(int k, int value) {
            if (k != 0) {
                x[k] = value;
            }
        }

        boolean run(int w) {
            switch (w >>> 12 & 7) {
                case 0: return integers(w, 1, 0);
                case 3: return integers(w, 4, numberOf(w));
                case 4: return integers(w, 2, x[vs1(w)]);
                case 2: return ofVectors(w);
                case 6: return ofScalar(w);
                case 7: return configure(w);
                default: return false;
            }
        }

        private boolean configure(int w) {
            boolean told = w >>> 30 == 3;
            int type;
            if (w >= 0) {
                type = w >>> 20 & 0x7ff;
            } else if (told) {
                type = w >>> 20 & 0x3ff;
            } else if (w >>> 25 == 0x40) {
                type = x[vs2(w)];
            } else {
                return false;
            }
            if (type >>> 8 != 0 || (type >>> 3 & 7) != 2 || (type & 7) > 3) {
                return false;
            }
            int all = wide << (type & 7);
            long asked = vs1(w);
            if (!told) {
                asked = vs1(w) != 0 ? x[vs1(w)] & UNSIGNED : vd(w) != 0 ? all : length;
            }
            group = 1 << (type & 7);
            length = (int) Math.min(asked, all);
            putScalar(vd(w), length);
            return true;
        }

        /** The number of a word; shifts, slides and gathers take it without a sign. */
        private static int numberOf(int w) {
            int six = w >>> 26;
            int n = vs1(w);
            boolean unsigned = six == GATHER || six == SLIDE_UP || six == SLIDE_DOWN || six > 32;
            return unsigned ? n : n << 27 >> 27;
        }

        /** The words of funct3 0, 3 and 4; form 1: the other one is vs1, else it is a scalar. */
        private boolean integers(int w, int form, int scalar) {
            int six = w >>> 26;
            boolean toBits = six >= EQUAL && six <= MOST_COMPARISON;
            boolean merges = six == MERGE;
            if ((FORMS[six] & form) == 0 || merges && !masked(w) && vs2(w) != 0) {
                return false;
            }
            if (!isGroup(vs2(w)) || form == 1 && !isGroup(vs1(w)) || !toBits && !takesGroup(w)) {
                return false;
            }
            int first = six == SLIDE_UP ? (int) Math.min(scalar & UNSIGNED, length) : 0;
            for (int i = first; i < length; i++) {
                int other = form == 1 ? v[vs1(w) * wide + i] : scalar;
                made[i] = integer(w, i, other);
            }
            for (int i = first; i < length; i++) {
                if (toBits && active(w, i)) {
                    setBit(vd(w), i, made[i] != 0);
                } else if (!toBits && (merges || active(w, i))) {
                    v[vd(w) * wide + i] = made[i];
                }
            }
            return true;
        }

        private int integer(int w, int i, int b) {
            int six = w >>> 26;
            int base = vs2(w) * wide;
            int a = v[base + i];
            switch (six) {
                case GATHER: return elementOf(base, b & UNSIGNED);
                case SLIDE_UP: return v[base + Math.max(i - b, 0)];
                case SLIDE_DOWN: return elementOf(base, i + (b & UNSIGNED));
                case MERGE: return active(w, i) ? b : a;
                default: return six >= EQUAL && six <= MOST_COMPARISON
                        ? compared(six, a, b) ? 1 : 0 : calculated(six, a, b);
            }
        }

        /** An element of a whole group, 0 beyond it. */
        private int elementOf(int base, long index) {
            return index < group * wide ? v[base + (int) index] : 0;
        }

        private static boolean compared(int six, int a, int b) {
            int unsigned = Integer.compareUnsigned(a, b);
            switch (six) {
                case 24: return a == b;
                case 25: return a != b;
                case 26: return unsigned < 0;
                case 27: return a < b;
                case 28: return unsigned <= 0;
                case 29: return a <= b;
                case 30: return unsigned > 0;
                default: return a > b;
            }
        }

        private static int calculated(int six, int a, int b) {
            boolean below = Integer.compareUnsigned(a, b) < 0;
            switch (six) {
                case 0: return a + b;
                case 2: return a - b;
                case 3: return b - a;
                case 4: return below ? a : b;
                case 5: return Math.min(a, b);
                case 6: return below ? b : a;
                case 7: return Math.max(a, b);
                case 9: return a & b;
                case 10: return a | b;
                case 11: return a ^ b;
                case 37: return a << (b & 31);
                case 40: return a >>> (b & 31);
                default: return a >> (b & 31);
            }
        }

        /** The words of funct3 2. */
        private boolean ofVectors(int w) {
            int six = w >>> 26;
            if (six >= 32) {
                return products(w, true);
            }
            if (six < 8) {
                return reduce(w);
            }
            switch (six) {
                case MOVE: return toScalar(w);
                case STEPS: return maskSteps(w);
                case MERGE: return compress(w);
                default: return six >= 24 && bitwise(w);
            }
        }

        /** The words of funct3 6. */
        private boolean ofScalar(int w) {
            switch (w >>> 26) {
                case SLIDE_UP: return slideOne(w, true);
                case SLIDE_DOWN: return slideOne(w, false);
                case MOVE: return fromScalar(w);
                default: return products(w, false);
            }
        }

        private boolean products(int w, boolean vector) {
            int six = w >>> 26;
            boolean known = six >= 32 && six < 40 || six > 40 && six < 48 && (six & 1) == 1;
            if (!known || !isGroup(vs2(w)) || vector && !isGroup(vs1(w)) || !takesGroup(w)) {
                return false;
            }
            for (int i = 0; i < length; i++) {
                int b = vector ? v[vs1(w) * wide + i] : x[vs1(w)];
                made[i] = product(six, v[vs2(w) * wide + i], b, v[vd(w) * wide + i]);
            }
            putMade(w);
            return true;
        }

        private static int product(int six, int a, int b, int old) {
            switch (six) {
                case 41: return old * b + a;
                case 43: return a - old * b;
                case 45: return b * a + old;
                case 47: return old - b * a;
                default: return Machine.multiplied(SCALAR[six & 7], a, b);
            }
        }

        /** Puts the elements that were made where they are active. */
        private void putMade(int w) {
            for (int i = 0; i < length; i++) {
                if (active(w, i)) {
                    v[vd(w) * wide + i] = made[i];
                }
            }
        }

        private boolean slideOne(int w, boolean up) {
            if (!isGroup(vs2(w)) || !takesGroup(w)) {
                return false;
            }
            int base = vs2(w) * wide;
            int entry = up ? 0 : length - 1;
            for (int i = 0; i < length; i++) {
                made[i] = i == entry ? x[vs1(w)] : v[base + (up ? i - 1 : i + 1)];
            }
            putMade(w);
            return true;
        }

        private boolean reduce(int w) {
            if (!isGroup(vs2(w))) {
                return false;
            }
            int made0 = v[vs1(w) * wide];
            for (int i = 0; i < length; i++) {
                if (active(w, i)) {
                    made0 = reduced(w >>> 26, made0, v[vs2(w) * wide + i]);
                }
            }
            if (length > 0) {
                v[vd(w) * wide] = made0;
            }
            return true;
        }

        private static int reduced(int six, int a, int b) {
            switch (six) {
                case 0: return a + b;
                case 1: return a & b;
                case 2: return a | b;
                case 3: return a ^ b;
                default: return calculated(six, a, b);
            }
        }

        /** VMV.X.S, VCPOP and VFIRST. */
        private boolean toScalar(int w) {
            int kind = vs1(w);
            if (kind == 0 && !masked(w)) {
                putScalar(vd(w), v[vs2(w) * wide]);
                return true;
            }
            if (kind != 16 && kind != 17) {
                return false;
            }
            int count = 0;
            for (int i = 0; i < length; i++) {
                count += active(w, i) && bit(vs2(w), i) ? 1 : 0;
            }
            putScalar(vd(w), kind == 16 ? count : firstBit(w));
            return true;
        }

        /** The place of the first active bit of vs2, -1 without one. */
        private int firstBit(int w) {
            for (int i = 0; i < length; i++) {
                if (active(w, i) && bit(vs2(w), i)) {
                    return i;
                }
            }
            return -1;
        }

        /** VMV.S.X. */
        private boolean fromScalar(int w) {
            if (masked(w) || vs2(w) != 0) {
                return false;
            }
            if (length > 0) {
                v[vd(w) * wide] = x[vs1(w)];
            }
            return true;
        }

        /** VMSBF, VMSOF, VMSIF, VIOTA and VID. */
        private boolean maskSteps(int w) {
            int kind = vs1(w);
            if (kind == 16 || kind == 17) {
                return countOn(w, kind == 17);
            }
            if (kind < 1 || kind > 3) {
                return false;
            }
            int first = firstBit(w);
            int end = first < 0 ? length : first;
            for (int i = 0; i < length; i++) {
                boolean on = kind == 2 ? i == first : i < end || kind == 3 && i == end;
                made[i] = on ? 1 : 0;
            }
            putBits(w);
            return true;
        }

        private void putBits(int w) {
            for (int i = 0; i < length; i++) {
                if (active(w, i)) {
                    setBit(vd(w), i, made[i] != 0);
                }
            }
        }

        private boolean countOn(int w, boolean all) {
            if (!takesGroup(w) || all && vs2(w) != 0) {
                return false;
            }
            int count = 0;
            for (int i = 0; i < length; i++) {
                made[i] = all ? i : count;
                count += active(w, i) && bit(vs2(w), i) ? 1 : 0;
            }
            putMade(w);
            return true;
        }

        private boolean compress(int w) {
            if (masked(w) || !isGroup(vs2(w)) || !isGroup(vd(w))) {
                return false;
            }
            int count = 0;
            for (int i = 0; i < length; i++) {
                if (bit(vs1(w), i)) {
                    made[count] = v[vs2(w) * wide + i];
                    count++;
                }
            }
            System.arraycopy(made, 0, v, vd(w) * wide, count);
            return true;
        }

        /** The words of bits alone. */
        private boolean bitwise(int w) {
            if (masked(w)) {
                return false;
            }
            for (int i = 0; i < length; i++) {
                made[i] = ofBits(w >>> 26, bit(vs2(w), i), bit(vs1(w), i)) ? 1 : 0;
            }
            putBits(w);
            return true;
        }

        private static boolean ofBits(int six, boolean a, boolean b) {
            switch (six) {
                case 24: return a && !b;
                case 25: return a && b;
                case 26: return a || b;
                case 27: return a != b;
                case 28: return a || !b;
                case 29: return !(a && b);
                case 30: return !(a || b);
                default: return a == b;
            }
        }

        /** Loads and stores of elements. */
        boolean transfer(int w, boolean stores) {
            int mode = w >>> 26 & 3;
            if ((w >>> 12 & 7) != 6 || w >>> 28 != 0 || mode == 0 && vs2(w) != 0) {
                return false;
            }
            if ((mode & 1) == 1 && !isGroup(vs2(w))) {
                return false;
            }
            if (stores ? !isGroup(vd(w)) : !takesGroup(w)) {
                return false;
            }
            int base = x[vs1(w)];
            for (int i = 0; i < length; i++) {
                int way = mode == 0 ? 4 * i : mode == 2 ? i * x[vs2(w)] : v[vs2(w) * wide + i];
                made[i] = base + way;
                if (active(w, i) && !Machine.within(made[i], 4)) {
                    return false;
                }
            }
            for (int i = 0; i < length; i++) {
                if (active(w, i) && stores) {
                    memory[made[i] >> 2] = v[vd(w) * wide + i];
                } else if (active(w, i)) {
                    v[vd(w) * wide + i] = memory[made[i] >> 2];
                }
            }
            return true;
        }
    }

    /** The assembler's orders. */
    private enum Order {
        LUI("lui", "d,u", 0x37),
        AUIPC("auipc", "d,u", 0x17),
        JAL("jal", "d,j", 0x6f),
        JALR("jalr", "d,a", 0x67),
        BEQ("beq", "s,t,b", 0x63),
        BNE("bne", "s,t,b", 0x1063),
        BLT("blt", "s,t,b", 0x4063),
        BGE("bge", "s,t,b", 0x5063),
        BLTU("bltu", "s,t,b", 0x6063),
        BGEU("bgeu", "s,t,b", 0x7063),
        LB("lb", "d,i(s)", 0x3),
        LH("lh", "d,i(s)", 0x1003),
        LW("lw", "d,i(s)", 0x2003),
        LBU("lbu", "d,i(s)", 0x4003),
        LHU("lhu", "d,i(s)", 0x5003),
        SB("sb", "t,o(s)", 0x23),
        SH("sh", "t,o(s)", 0x1023),
        SW("sw", "t,o(s)", 0x2023),
        ADDI("addi", "d,s,i", 0x13),
        SLTI("slti", "d,s,i", 0x2013),
        SLTIU("sltiu", "d,s,i", 0x3013),
        XORI("xori", "d,s,i", 0x4013),
        ORI("ori", "d,s,i", 0x6013),
        ANDI("andi", "d,s,i", 0x7013),
        SLLI("slli", "d,s,h", 0x1013),
        SRLI("srli", "d,s,h", 0x5013),
        SRAI("srai", "d,s,h", 0x40005013),
        ADD("add", "d,s,t", 0x33),
        SUB("sub", "d,s,t", 0x40000033),
        SLL("sll", "d,s,t", 0x1033),
        SLT("slt", "d,s,t", 0x2033),
        SLTU("sltu", "d,s,t", 0x3033),
        XOR("xor", "d,s,t", 0x4033),
        SRL("srl", "d,s,t", 0x5033),
        SRA("sra", "d,s,t", 0x40005033),
        OR("or", "d,s,t", 0x6033),
        AND("and", "d,s,t", 0x7033),
        MUL("mul", "d,s,t", 0x2000033),
        MULH("mulh", "d,s,t", 0x2001033),
        MULHSU("mulhsu", "d,s,t", 0x2002033),
        MULHU("mulhu", "d,s,t", 0x2003033),
        DIV("div", "d,s,t", 0x2004033),
        DIVU("divu", "d,s,t", 0x2005033),
        REM("rem", "d,s,t", 0x2006033),
        REMU("remu", "d,s,t", 0x2007033),
        EBREAK("ebreak", "", 0x00100073),
        LI("li", "d,w", 0x13),
        MV("mv", "d,s", 0x13),
        NOP("nop", "", 0x13),
        J("j", "j", 0x6f),
        BEQZ("beqz", "s,b", 0x63),
        BNEZ("bnez", "s,b", 0x1063),
        WORD(".word", "W", 0),
        VSETVLI("vsetvli", "d,s,e", 0x7057),
        VSETIVLI("vsetivli", "d,z,e", 0xc0007057),
        VSETVL("vsetvl", "d,s,t", 0x80007057),
        VADD_VV("vadd.vv", "D,T,Sm", VV),
        VADD_VX("vadd.vx", "D,T,sm", VX),
        VADD_VI("vadd.vi", "D,T,nm", VI),
        VSUB_VV("vsub.vv", "D,T,Sm", VV | 2 << 26),
        VSUB_VX("vsub.vx", "D,T,sm", VX | 2 << 26),
        VRSUB_VX("vrsub.vx", "D,T,sm", VX | 3 << 26),
        VRSUB_VI("vrsub.vi", "D,T,nm", VI | 3 << 26),
        VMINU_VV("vminu.vv", "D,T,Sm", VV | 4 << 26),
        VMINU_VX("vminu.vx", "D,T,sm", VX | 4 << 26),
        VMIN_VV("vmin.vv", "D,T,Sm", VV | 5 << 26),
        VMIN_VX("vmin.vx", "D,T,sm", VX | 5 << 26),
        VMAXU_VV("vmaxu.vv", "D,T,Sm", VV | 6 << 26),
        VMAXU_VX("vmaxu.vx", "D,T,sm", VX | 6 << 26),
        VMAX_VV("vmax.vv", "D,T,Sm", VV | 7 << 26),
        VMAX_VX("vmax.vx", "D,T,sm", VX | 7 << 26),
        VAND_VV("vand.vv", "D,T,Sm", VV | 9 << 26),
        VAND_VX("vand.vx", "D,T,sm", VX | 9 << 26),
        VAND_VI("vand.vi", "D,T,nm", VI | 9 << 26),
        VOR_VV("vor.vv", "D,T,Sm", VV | 10 << 26),
        VOR_VX("vor.vx", "D,T,sm", VX | 10 << 26),
        VOR_VI("vor.vi", "D,T,nm", VI | 10 << 26),
        VXOR_VV("vxor.vv", "D,T,Sm", VV | 11 << 26),
        VXOR_VX("vxor.vx", "D,T,sm", VX | 11 << 26),
        VXOR_VI("vxor.vi", "D,T,nm", VI | 11 << 26),
        VRGATHER_VV("vrgather.vv", "D,T,Sm", VV | 12 << 26),
        VRGATHER_VX("vrgather.vx", "D,T,sm", VX | 12 << 26),
        VRGATHER_VI("vrgather.vi", "D,T,zm", VI | 12 << 26),
        VSLIDEUP_VX("vslideup.vx", "D,T,sm", VX | 14 << 26),
        VSLIDEUP_VI("vslideup.vi", "D,T,zm", VI | 14 << 26),
        VSLIDEDOWN_VX("vslidedown.vx", "D,T,sm", VX | 15 << 26),
        VSLIDEDOWN_VI("vslidedown.vi", "D,T,zm", VI | 15 << 26),
        VSLL_VV("vsll.vv", "D,T,Sm", VV | 37 << 26),
        VSLL_VX("vsll.vx", "D,T,sm", VX | 37 << 26),
        VSLL_VI("vsll.vi", "D,T,zm", VI | 37 << 26),
        VSRL_VV("vsrl.vv", "D,T,Sm", VV | 40 << 26),
        VSRL_VX("vsrl.vx", "D,T,sm", VX | 40 << 26),
        VSRL_VI("vsrl.vi", "D,T,zm", VI | 40 << 26),
        VSRA_VV("vsra.vv", "D,T,Sm", VV | 41 << 26),
        VSRA_VX("vsra.vx", "D,T,sm", VX | 41 << 26),
        VSRA_VI("vsra.vi", "D,T,zm", VI | 41 << 26),
        VMSEQ_VV("vmseq.vv", "D,T,Sm", VV | 24 << 26),
        VMSEQ_VX("vmseq.vx", "D,T,sm", VX | 24 << 26),
        VMSEQ_VI("vmseq.vi", "D,T,nm", VI | 24 << 26),
        VMSNE_VV("vmsne.vv", "D,T,Sm", VV | 25 << 26),
        VMSNE_VX("vmsne.vx", "D,T,sm", VX | 25 << 26),
        VMSNE_VI("vmsne.vi", "D,T,nm", VI | 25 << 26),
        VMSLTU_VV("vmsltu.vv", "D,T,Sm", VV | 26 << 26),
        VMSLTU_VX("vmsltu.vx", "D,T,sm", VX | 26 << 26),
        VMSLT_VV("vmslt.vv", "D,T,Sm", VV | 27 << 26),
        VMSLT_VX("vmslt.vx", "D,T,sm", VX | 27 << 26),
        VMSLEU_VV("vmsleu.vv", "D,T,Sm", VV | 28 << 26),
        VMSLEU_VX("vmsleu.vx", "D,T,sm", VX | 28 << 26),
        VMSLEU_VI("vmsleu.vi", "D,T,nm", VI | 28 << 26),
        VMSLE_VV("vmsle.vv", "D,T,Sm", VV | 29 << 26),
        VMSLE_VX("vmsle.vx", "D,T,sm", VX | 29 << 26),
        VMSLE_VI("vmsle.vi", "D,T,nm", VI | 29 << 26),
        VMSGTU_VX("vmsgtu.vx", "D,T,sm", VX | 30 << 26),
        VMSGTU_VI("vmsgtu.vi", "D,T,nm", VI | 30 << 26),
        VMSGT_VX("vmsgt.vx", "D,T,sm", VX | 31 << 26),
        VMSGT_VI("vmsgt.vi", "D,T,nm", VI | 31 << 26),
        VMERGE_VVM("vmerge.vvm", "D,T,S,0", VV & MASKED | 23 << 26),
        VMERGE_VXM("vmerge.vxm", "D,T,s,0", VX & MASKED | 23 << 26),
        VMERGE_VIM("vmerge.vim", "D,T,n,0", VI & MASKED | 23 << 26),
        VMV_V_V("vmv.v.v", "D,S", VV | 23 << 26),
        VMV_V_X("vmv.v.x", "D,s", VX | 23 << 26),
        VMV_V_I("vmv.v.i", "D,n", VI | 23 << 26),
        VDIVU_VV("vdivu.vv", "D,T,Sm", PV | 32 << 26),
        VDIVU_VX("vdivu.vx", "D,T,sm", PX | 32 << 26),
        VDIV_VV("vdiv.vv", "D,T,Sm", PV | 33 << 26),
        VDIV_VX("vdiv.vx", "D,T,sm", PX | 33 << 26),
        VREMU_VV("vremu.vv", "D,T,Sm", PV | 34 << 26),
        VREMU_VX("vremu.vx", "D,T,sm", PX | 34 << 26),
        VREM_VV("vrem.vv", "D,T,Sm", PV | 35 << 26),
        VREM_VX("vrem.vx", "D,T,sm", PX | 35 << 26),
        VMULHU_VV("vmulhu.vv", "D,T,Sm", PV | 36 << 26),
        VMULHU_VX("vmulhu.vx", "D,T,sm", PX | 36 << 26),
        VMUL_VV("vmul.vv", "D,T,Sm", PV | 37 << 26),
        VMUL_VX("vmul.vx", "D,T,sm", PX | 37 << 26),
        VMULHSU_VV("vmulhsu.vv", "D,T,Sm", PV | 38 << 26),
        VMULHSU_VX("vmulhsu.vx", "D,T,sm", PX | 38 << 26),
        VMULH_VV("vmulh.vv", "D,T,Sm", PV | 39 << 26),
        VMULH_VX("vmulh.vx", "D,T,sm", PX | 39 << 26),
        VMADD_VV("vmadd.vv", "D,S,Tm", PV | 41 << 26),
        VMADD_VX("vmadd.vx", "D,s,Tm", PX | 41 << 26),
        VNMSUB_VV("vnmsub.vv", "D,S,Tm", PV | 43 << 26),
        VNMSUB_VX("vnmsub.vx", "D,s,Tm", PX | 43 << 26),
        VMACC_VV("vmacc.vv", "D,S,Tm", PV | 45 << 26),
        VMACC_VX("vmacc.vx", "D,s,Tm", PX | 45 << 26),
        VNMSAC_VV("vnmsac.vv", "D,S,Tm", PV | 47 << 26),
        VNMSAC_VX("vnmsac.vx", "D,s,Tm", PX | 47 << 26),
        VSLIDE1UP_VX("vslide1up.vx", "D,T,sm", PX | 14 << 26),
        VSLIDE1DOWN_VX("vslide1down.vx", "D,T,sm", PX | 15 << 26),
        VREDSUM_VS("vredsum.vs", "D,T,Sm", PV),
        VREDAND_VS("vredand.vs", "D,T,Sm", PV | 1 << 26),
        VREDOR_VS("vredor.vs", "D,T,Sm", PV | 2 << 26),
        VREDXOR_VS("vredxor.vs", "D,T,Sm", PV | 3 << 26),
        VREDMINU_VS("vredminu.vs", "D,T,Sm", PV | 4 << 26),
        VREDMIN_VS("vredmin.vs", "D,T,Sm", PV | 5 << 26),
        VREDMAXU_VS("vredmaxu.vs", "D,T,Sm", PV | 6 << 26),
        VREDMAX_VS("vredmax.vs", "D,T,Sm", PV | 7 << 26),
        VMV_X_S("vmv.x.s", "d,T", PV | 16 << 26),
        VMV_S_X("vmv.s.x", "D,s", PX | 16 << 26),
        VCPOP_M("vcpop.m", "d,Tm", PV | 16 << 26 | 16 << 15),
        VFIRST_M("vfirst.m", "d,Tm", PV | 16 << 26 | 17 << 15),
        VMSBF_M("vmsbf.m", "D,Tm", PV | 20 << 26 | 1 << 15),
        VMSOF_M("vmsof.m", "D,Tm", PV | 20 << 26 | 2 << 15),
        VMSIF_M("vmsif.m", "D,Tm", PV | 20 << 26 | 3 << 15),
        VIOTA_M("viota.m", "D,Tm", PV | 20 << 26 | 16 << 15),
        VID_V("vid.v", "Dm", PV | 20 << 26 | 17 << 15),
        VCOMPRESS_VM("vcompress.vm", "D,T,S", PV | 23 << 26),
        VMANDN_MM("vmandn.mm", "D,T,S", PV | 24 << 26),
        VMAND_MM("vmand.mm", "D,T,S", PV | 25 << 26),
        VMOR_MM("vmor.mm", "D,T,S", PV | 26 << 26),
        VMXOR_MM("vmxor.mm", "D,T,S", PV | 27 << 26),
        VMORN_MM("vmorn.mm", "D,T,S", PV | 28 << 26),
        VMNAND_MM("vmnand.mm", "D,T,S", PV | 29 << 26),
        VMNOR_MM("vmnor.mm", "D,T,S", PV | 30 << 26),
        VMXNOR_MM("vmxnor.mm", "D,T,S", PV | 31 << 26),
        VLE32_V("vle32.v", "D,(s)m", 0x02006007),
        VLSE32_V("vlse32.v", "D,(s),tm", 0x0a006007),
        VLUXEI32_V("vluxei32.v", "D,(s),Tm", 0x06006007),
        VLOXEI32_V("vloxei32.v", "D,(s),Tm", 0x0e006007),
        VSE32_V("vse32.v", "D,(s)m", 0x02006027),
        VSSE32_V("vsse32.v", "D,(s),tm", 0x0a006027),
        VSUXEI32_V("vsuxei32.v", "D,(s),Tm", 0x06006027),
        VSOXEI32_V("vsoxei32.v", "D,(s),Tm", 0x0e006027);

        final String text;
        /** Its operands, a letter each, as Assembler.operand tells them. */
        final String form;
        final int bits;

        Order(String text, String form, int bits) {
            this.text = text;
            this.form = form;
            this.bits = bits;
        }
    }

    /** The vector machine's assembler. */
    private static final class Assembler {
        private static final Order[] ORDERS = Order.values();
        private static final int LABELS = 200;
        private static final int LABEL_BYTES = 20;
        /** A word takes four bytes of the tape at least, so there is room for all. */
        private static final int WORDS = TAPE_BYTES / 2;
        private static final int NO_LINE = 1;
        private static final int NO_LABEL = 2;
        private static final int LABEL_TWICE = 3;
        private static final int UNFIT = 4;
        private static final long FAR = 1L << 40;

        final int[] words = new int[WORDS];
        /** The line of the latest error; 0 without one. */
        int errorLine;
        private int count;
        private final int[] labelFrom = new int[LABELS];
        private final int[] labelSize = new int[LABELS];
        private final int[] labelWord = new int[LABELS];
        private int labels;
        // The ways to labels: a word, the label that it names, and the line where it stands.
        private final int[] wayWord = new int[WORDS];
        private final int[] wayFrom = new int[WORDS];
        private final int[] waySize = new int[WORDS];
        private final int[] wayLine = new int[WORDS];
        private int ways;
        // What is being read, and what was found in its line.
        private byte[] text;
        private int line;
        private int at;
        private int end;
        private int bits;
        private long number;
        private boolean unfit;

        /** Assembles the tape: how many words, or -1 less its error. */
        int run(byte[] tape, int size) {
            text = tape;
            count = 0;
            labels = 0;
            ways = 0;
            line = 1;
            errorLine = 0;
            int from = 0;
            for (int k = 0; k <= size; k++) {
                if (k == size || text[k] == 10) {
                    int error = readLine(from, k);
                    if (error != 0) {
                        errorLine = line;
                        return -1 - error;
                    }
                    from = k + 1;
                    line++;
                }
            }
            for (int k = 0; k < ways; k++) {
                int error = layWay(k);
                if (error != 0) {
                    errorLine = wayLine[k];
                    return -1 - error;
                }
            }
            return count;
        }

        private int readLine(int from, int to) {
            at = from;
            end = to;
            for (int k = to - 1; k >= from; k--) {
                int c = text[k];
                if (c != 9 && (c < 32 || c > 126)) {
                    return NO_LINE;
                }
                end = c == '#' ? k : end;
            }
            skipBlanks();
            unfit = false;
            int labelAt = at;
            int size = labelHere();
            if (size < 0) {
                return NO_LINE;
            }
            Order order = null;
            if (at < end) {
                order = orderHere();
                if (order == null || !operands(order)) {
                    return NO_LINE;
                }
            }
            if (size > 0 && !addLabel(labelAt, size)) {
                return LABEL_TWICE;
            }
            if (unfit) {
                return UNFIT;
            }
            if (order != null) {
                emitOrder(order);
            }
            return 0;
        }

        private static boolean isBlank(int c) {
            return c == ' ' || c == 9;
        }

        private void skipBlanks() {
            while (at < end && (text[at] == ' ' || text[at] == 9)) {
                at++;
            }
        }

        /** How many bytes from one on are of a label's kinds. */
        private int nameSize(int from) {
            int k = from;
            while (k < end && (Words.isLetter(text[k]) || Words.isDigit(text[k]) || text[k] == '_')) {
                k++;
            }
            return k - from;
        }

        private boolean isLabel(int from, int size) {
            return size > 0 && size <= LABEL_BYTES && !Words.isDigit(text[from]);
        }

        /** Reads a label with its colon: its size, 0 if there is none, -1 if it is wrong. */
        private int labelHere() {
            int size = nameSize(at);
            int k = at + size;
            while (k < end && isBlank(text[k])) {
                k++;
            }
            if (k >= end || text[k] != ':') {
                return 0;
            }
            if (!isLabel(at, size)) {
                return -1;
            }
            at = k + 1;
            skipBlanks();
            return size;
        }

        private int labelOf(int from, int size) {
            for (int k = 0; k < labels; k++) {
                boolean same = labelSize[k] == size;
                for (int j = 0; same && j < size; j++) {
                    same = text[labelFrom[k] + j] == text[from + j];
                }
                if (same) {
                    return k;
                }
            }
            return -1;
        }

        private boolean addLabel(int from, int size) {
            if (labels >= LABELS || labelOf(from, size) >= 0) {
                return false;
            }
            labelFrom[labels] = from;
            labelSize[labels] = size;
            labelWord[labels] = count;
            labels++;
            return true;
        }

        private Order orderHere() {
            int from = at;
            while (at < end && !isBlank(text[at])) {
                at++;
            }
            for (int k = 0; k < ORDERS.length; k++) {
                if (isText(ORDERS[k].text, from, at - from)) {
                    return ORDERS[k];
                }
            }
            return null;
        }

        private boolean isText(String s, int from, int size) {
            boolean same = s.length() == size;
            for (int j = 0; same && j < size; j++) {
                same = s.charAt(j) == text[from + j];
            }
            return same;
        }

        private boolean operands(Order order) {
            bits = order.bits;
            skipBlanks();
            for (int k = 0; k < order.form.length(); k++) {
                if (!operand(order.form.charAt(k))) {
                    return false;
                }
            }
            skipBlanks();
            return at == end;
        }

        /** Reads one letter of an order's form; false if it is not there. */
        private boolean operand(char letter) {
            switch (letter) {
                case 'd': return registerHere('x', 7);
                case 's': return registerHere('x', 15);
                case 't': return registerHere('x', 20);
                case 'D': return registerHere('v', 7);
                case 'S': return registerHere('v', 15);
                case 'T': return registerHere('v', 20);
                case 'i': return numberHere(-2048, 2047, 20);
                case 'o': return storeWayHere();
                case 'u': return numberHere(0, 0xfffff, 12);
                case 'h': return numberHere(0, 31, 20);
                case 'n': return numberHere(-16, 15, 15);
                case 'z': return numberHere(0, 31, 15);
                case 'w': return numberHere(Integer.MIN_VALUE, Integer.MAX_VALUE, 32);
                case 'W': return numberHere(Integer.MIN_VALUE, UNSIGNED, 32);
                case 'a': return jumpAimHere();
                case 'b': case 'j': return wayHere();
                case 'e': return textHere("e32") && after(',') && typeHere();
                case '0': return textHere("v0");
                case 'm': return maskHere();
                default: return after(letter);
            }
        }

        /** Reads a comma or bracket with the blanks around it. */
        private boolean after(char c) {
            skipBlanks();
            if (at >= end || text[at] != c) {
                return false;
            }
            at++;
            skipBlanks();
            return true;
        }

        private boolean textHere(String s) {
            if (at + s.length() > end || !isText(s, at, s.length())) {
                return false;
            }
            at += s.length();
            return true;
        }

        private boolean registerHere(char kind, int shift) {
            if (at + 1 >= end || text[at] != kind || !Words.isDigit(text[at + 1])) {
                return false;
            }
            int k = text[at + 1] - '0';
            at += 2;
            if (k != 0 && at < end && Words.isDigit(text[at])) {
                k = 10 * k + text[at] - '0';
                at++;
            }
            bits |= k << shift;
            return k < 32;
        }

        /** Reads a number for the bits from a place on (5, 12 or 20 of them); none from 32 on. */
        private boolean numberHere(long least, long most, int shift) {
            boolean negative = at < end && text[at] == '-';
            int first = negative ? at + 1 : at;
            at = first;
            long v = 0;
            while (at < end && Words.isDigit(text[at])) {
                v = Math.min(10 * v + text[at] - '0', FAR);
                at++;
            }
            number = negative ? -v : v;
            unfit = unfit || number < least || number > most;
            if (shift == 15) {
                bits |= ((int) number & 31) << shift;
            } else if (shift < 32) {
                bits |= (int) number << shift;
            }
            return at > first;
        }

        private boolean storeWayHere() {
            boolean there = numberHere(-2048, 2047, 32);
            bits |= ((int) number & 31) << 7 | (int) number >> 5 << 25;
            return there;
        }

        /** Where JALR jumps to: n(rs1), or rs1, n. */
        private boolean jumpAimHere() {
            if (at < end && text[at] == 'x') {
                return registerHere('x', 15) && after(',') && numberHere(-2048, 2047, 20);
            }
            return numberHere(-2048, 2047, 20) && after('(') && registerHere('x', 15) && after(')');
        }

        private boolean wayHere() {
            int size = nameSize(at);
            if (!isLabel(at, size)) {
                return false;
            }
            if (ways < WORDS) {
                wayWord[ways] = count;
                wayFrom[ways] = at;
                waySize[ways] = size;
                wayLine[ways] = line;
                ways++;
            }
            at += size;
            return true;
        }

        private boolean typeHere() {
            int size = textHere("m1") ? 0 : textHere("m2") ? 1 : textHere("m4") ? 2
                    : textHere("m8") ? 3 : -1;
            if (size < 0) {
                return false;
            }
            int type = 2 << 3 | size;
            boolean more = after(',');
            if (more && textHere("ta")) {
                type |= 1 << 6;
                more = after(',');
            } else if (more && textHere("tu")) {
                more = after(',');
            }
            if (more && textHere("ma")) {
                type |= 1 << 7;
            } else if (more && !textHere("mu")) {
                return false;
            }
            bits |= type << 20;
            return true;
        }

        private boolean maskHere() {
            skipBlanks();
            if (at < end) {
                bits &= MASKED;
                return after(',') && textHere("v0.t");
            }
            return true;
        }

        private void emit(int word) {
            if (count < WORDS) {
                words[count] = word;
                count++;
            }
        }

        private void emitOrder(Order order) {
            int n = (int) number;
            if (order == Order.WORD) {
                emit(n);
            } else if (order != Order.LI) {
                emit(bits);
            } else if (n >= -2048 && n <= 2047) {
                emit(bits | n << 20);
            } else {
                int rd = bits >>> 7 & 31;
                int high = (int) Math.floorDiv(number + 2048, 4096L);
                int rest = n - (high << 12);
                emit(Order.LUI.bits | rd << 7 | high << 12);
                if (rest != 0) {
                    emit(Order.ADDI.bits | rd << 7 | rd << 15 | rest << 20);
                }
            }
        }

        /** Puts way k in its word, now that all labels are known. */
        private int layWay(int k) {
            int label = labelOf(wayFrom[k], waySize[k]);
            if (label < 0) {
                return NO_LABEL;
            }
            int word = wayWord[k];
            int way = 4 * (labelWord[label] - word);
            boolean branches = (words[word] & 127) == Order.BEQ.bits;
            int most = branches ? 1 << 12 : 1 << 20;
            if (way < -most || way >= most) {
                return UNFIT;
            }
            words[word] |= branches
                    ? way >> 12 << 31 | (way >> 5 & 63) << 25 | (way & 30) << 7 | (way >> 11 & 1) << 7
                    : way >> 20 << 31 | (way & 0x7fe) << 20 | (way >> 11 & 1) << 20 | way & 0xff000;
            return 0;
        }
    }
}
