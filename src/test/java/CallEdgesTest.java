/** Promises 1 to 19: each call's own bounds, and what it throws, sentence by sentence. */
public final class CallEdgesTest {
    private static final Bench b = new Bench("CallEdgesTest");
    private static final int LEAST = Integer.MIN_VALUE;
    private static final int MOST = Integer.MAX_VALUE;
    private static final String ARGUMENT = "IllegalArgumentException";
    private static final String STATE = "IllegalStateException";
    private static final String NONE = "NoSuchElementException";

    public static void main(String[] args) {
        newObject();
        feed();
        line();
        vector();
        steps();
        registers();
        elements();
        words();
        jump();
        machine();
        axesAndAtoms();
        name();
        forget();
        look();
        b.end();
    }

    /** A call without an answer. */
    private static void throwing(String call, String want, Runnable made) {
        b.throwing(call, want, () -> {
            made.run();
            return 0;
        });
    }

    private static String looks(int from, int to) {
        StringBuilder s = new StringBuilder();
        for (int k = from; k <= to; k++) {
            s.append(k == from ? "" : " ").append(b.tongue.look(k));
        }
        return s.toString();
    }

    /** "No names; no line yet", and the machine "all 0 at first (VL, too; LMUL 1), state 0", E "4 at first". */
    private static void newObject() {
        b.fresh();
        b.due("look 0 to 10", "0 0 -1 -1 0 0 0 0 0 0 1", looks(0, 10));
        b.throwing("axis(0)", NONE, () -> b.tongue.axis(0));
        b.throwing("atom(0)", NONE, () -> b.tongue.atom(0));
        for (int k = 0; k < 32; k++) {
            b.due("x" + k, 0, b.tongue.register(k));
            for (int i = 0; i < 4; i++) {
                b.due("v" + k + "[" + i + "]", 0, b.tongue.element(k, i));
            }
        }
        b.throwing("element(0, 4)", ARGUMENT, () -> b.tongue.element(0, 4));
        b.due("word(0)", 0, b.tongue.word(0));
        b.due("word(65532)", 0, b.tongue.word(65532));
        b.due("name()", 0, b.tongue.name());
        b.due("forget()", 0, b.tongue.forget());
    }

    /** "The n lowest bytes of v, lowest first, come behind the tape (4096 bytes at most): how many it has". */
    private static void feed() {
        long digits = 0x3837363534333231L;
        for (int n = 1; n <= 8; n++) {
            b.fresh();
            b.due("feed(" + n + ")", n, b.tongue.feed(n, digits));
            b.due("look(0)", n, b.tongue.look(0));
            b.due("what came", ": " + "12345678".substring(0, n), b.answer(b.tongue.line()));
            b.due("feed again", n, b.tongue.feed(n, digits));
            b.due("feed behind it", 2 * n, b.tongue.feed(n, digits));
            b.due("what came", ": " + "12345678".substring(0, n).repeat(2), b.answer(b.tongue.line()));
        }
        b.fresh();
        b.due("a byte with higher ones", 1, b.tongue.feed(1, -256 | '7'));
        b.due("it alone came", ": 7", b.answer(b.tongue.line()));
        for (int n : new int[] {0, 9, -1, 10, 16, LEAST, MOST}) {
            b.throwing("feed(" + n + ", 0)", ARGUMENT, () -> b.tongue.feed(n, 0));
        }
        b.due("nothing came", 0, b.tongue.look(0));
        fullTape();
    }

    private static void fullTape() {
        for (int short1 = 0; short1 <= 8; short1++) {
            b.fresh();
            for (int k = 0; k < 511; k++) {
                b.tongue.feed(8, 0x2020202020202020L);
            }
            if (short1 < 8) {
                b.tongue.feed(8 - short1, 0x2020202020202020L);
            }
            int has = 4096 - short1;
            b.due("the tape", has, b.tongue.look(0));
            for (int n = 1; n <= 8; n++) {
                if (n > short1) {
                    int more = n;
                    b.throwing("feed(" + n + ") of " + has, STATE, () -> b.tongue.feed(more, 0));
                }
            }
            b.throwing("feed(0) of " + has, ARGUMENT, () -> b.tongue.feed(0, 0));
            b.throwing("feed(9) of " + has, ARGUMENT, () -> b.tongue.feed(9, 0));
            b.due("the tape stays", has, b.tongue.look(0));
            if (short1 > 0) {
                b.due("up to the end", 4096, b.tongue.feed(short1, 0x2020202020202020L));
            }
            b.due("it is used up", 9, b.tongue.line());
            b.due("the tape", 0, b.tongue.look(0));
        }
    }

    /** "The tape, which is used up, as a line: 0, or its error". */
    private static void line() {
        String[] rows = {"=>0", " =>0", "5=>0", "!=>1", "x=>2", "1+=>3", "1%0=>4", "2^63=>5", "1 2+1 2 3=>6", "{.0$0=>7", "i.4097=>8"};
        for (String row : rows) {
            int arrow = row.indexOf("=>");
            b.fresh();
            b.feed(row.substring(0, arrow));
            int want = Integer.parseInt(row.substring(arrow + 2));
            b.due(row, want, b.tongue.line());
            b.due(row + " used up", 0, b.tongue.look(0));
            b.due(row + " behind it", 0, b.tongue.line());
            b.due(row + " behind it", "0 0 -1 -1 0 0", looks(0, 5));
        }
        b.fresh();
        b.line("+", "verb");
        b.line(" ".repeat(401), "error 9");
        b.due("look behind a line too long", "0 0 -1 -1 0 0", looks(0, 5));
        b.line("7 8", "2: 7 8");
        b.line(" ".repeat(401), "error 9");
        b.due("look behind a line too long", "0 0 -1 -1 0 0", looks(0, 5));
        // A byte that the tape had before is none of the next line's.
        b.line("i.3", "3: 0 1 2");
        b.line("i", "error 2");
        b.line("e.:", "error 1");
        b.line("e", "error 2");
        b.line("_5", ": -5");
        b.line("_", "error 1");
        b.line("12345", ": 12345");
        b.line("12", ": 12");
        b.line("abc=.1", ": 1");
        b.line("ab", "error 2");
        b.line("+..", "error 1");
        b.line("+.", "verb");
        b.line("+", "verb");
    }

    private static void vector() {
        for (int e : new int[] {0, 1, 3, 5, 6, 7, 9, 15, 17, 32, 64, -1, -2, -4, LEAST, MOST}) {
            b.fresh();
            b.tongue.setElement(31, 3, 5);
            throwing("vector(" + e + ")", ARGUMENT, () -> b.tongue.vector(e));
            b.due("it changes nothing", 5, b.tongue.element(31, 3));
            b.throwing("E stays 4", ARGUMENT, () -> b.tongue.element(0, 4));
        }
        for (int before : new int[] {2, 4, 8, 16}) {
            for (int e : new int[] {2, 4, 8, 16}) {
                b.fresh();
                b.tongue.vector(before);
                b.tongue.setElement(31, before - 1, 5);
                b.tongue.setElement(0, 0, 6);
                b.tongue.setRegister(31, 7);
                b.tongue.setWord(65532, 8);
                b.assemble("vsetivli x1,2,e32,m8\n.word 0");
                b.tongue.steps(5);
                b.due("before", "2 4 2", looks(6, 8));
                b.tongue.vector(e);
                b.due("anew", "0 0 0 0 1", looks(6, 10));
                b.due("x31", 0, b.tongue.register(31));
                b.due("words", 0, b.tongue.word(65532) | b.tongue.word(0) | b.tongue.word(4));
                int any = 0;
                for (int k = 0; k < 32; k += 31) {
                    for (int i = 0; i < e; i++) {
                        any |= b.tongue.element(k, i);
                    }
                }
                b.due("elements", 0, any);
                b.throwing("element e", ARGUMENT, () -> b.tongue.element(31, e));
            }
        }
    }

    /** "n steps at most, until state 1 or 2 (none in these): how many were done (the one that told it, too)". */
    private static void steps() {
        b.fresh();
        b.assemble("a: addi x1,x1,1\nj a");
        for (int n : new int[] {-1, 20001, LEAST, MOST}) {
            b.throwing("steps(" + n + ")", ARGUMENT, () -> b.tongue.steps(n));
        }
        b.due("none were done", 0, b.tongue.register(1));
        b.due("steps(0)", 0, b.tongue.steps(0));
        b.due("PC", 0, b.tongue.look(7));
        b.due("steps(19999)", 19999, b.tongue.steps(19999));
        b.due("x1", 10000, b.tongue.register(1));
        b.due("steps(20000)", 20000, b.tongue.steps(20000));
        b.due("x1", 20000, b.tongue.register(1));
        b.due("state", 0, b.tongue.look(6));
        for (String last : new String[] {"ebreak", ".word 0"}) {
            int state = last.equals("ebreak") ? 1 : 2;
            for (int n = 0; n <= 4; n++) {
                b.fresh();
                b.assemble("nop\nnop\n" + last + "\nnop");
                b.due("steps(" + n + ") up to " + last, Math.min(n, 3), b.tongue.steps(n));
                b.due("state and PC", (n < 3 ? 0 : state) + " " + 4 * Math.min(n, 2), looks(6, 7));
            }
            b.due("no more in state " + state, 0, b.tongue.steps(20000));
            b.due("nor none", 0, b.tongue.steps(0));
            b.throwing("steps(-1) in state " + state, ARGUMENT, () -> b.tongue.steps(-1));
            b.throwing("steps(20001) in state " + state, ARGUMENT, () -> b.tongue.steps(20001));
            b.tongue.jump(12);
            b.due("again behind jump", 1, b.tongue.steps(1));
            b.due("state and PC", "0 16", looks(6, 7));
        }
        b.fresh();
        b.tongue.setWord(65532, 0x13);
        b.tongue.jump(65532);
        b.due("the last word, and beyond", 2, b.tongue.steps(9));
        b.due("state and PC", "2 65536", looks(6, 7));
    }

    private static void registers() {
        for (int k : new int[] {-1, 32, 33, 64, LEAST, MOST}) {
            b.fresh();
            b.throwing("register(" + k + ")", ARGUMENT, () -> b.tongue.register(k));
            throwing("setRegister(" + k + ")", ARGUMENT, () -> b.tongue.setRegister(k, 5));
            for (int j = 0; j < 32; j++) {
                b.due("x" + j, 0, b.tongue.register(j));
            }
        }
        b.fresh();
        for (int k = 0; k < 32; k++) {
            b.tongue.setRegister(k, 100 + k);
        }
        for (int k = 0; k < 32; k++) {
            b.due("x" + k + " (x0 stays)", k == 0 ? 0 : 100 + k, b.tongue.register(k));
        }
        for (int v : new int[] {LEAST, MOST, -1, 0}) {
            b.tongue.setRegister(31, v);
            b.due("x31", v, b.tongue.register(31));
        }
    }

    private static void elements() {
        for (int e : new int[] {2, 4, 8, 16}) {
            b.fresh();
            b.tongue.vector(e);
            for (int k : new int[] {-1, 32, 33, LEAST, MOST}) {
                b.throwing("element(" + k + ", 0)", ARGUMENT, () -> b.tongue.element(k, 0));
                throwing("setElement(" + k + ", 0)", ARGUMENT, () -> b.tongue.setElement(k, 0, 5));
            }
            for (int i : new int[] {-1, e, e + 1, 16, LEAST, MOST}) {
                b.throwing("element(0, " + i + ")", ARGUMENT, () -> b.tongue.element(0, i));
                throwing("setElement(0, " + i + ")", ARGUMENT, () -> b.tongue.setElement(0, i, 5));
                b.throwing("element(31, " + i + ")", ARGUMENT, () -> b.tongue.element(31, i));
                throwing("setElement(31, " + i + ")", ARGUMENT, () -> b.tongue.setElement(31, i, 5));
            }
            b.throwing("element(32, -1)", ARGUMENT, () -> b.tongue.element(32, -1));
            int any = 0;
            for (int i = 0; i < e; i++) {
                any |= b.tongue.element(0, i) | b.tongue.element(31, i);
            }
            b.due("nothing was set", 0, any);
            for (int i = 0; i < e; i++) {
                b.tongue.setElement(0, i, 10 + i);
                b.tongue.setElement(1, i, 30 + i);
                b.tongue.setElement(31, i, LEAST + i);
            }
            for (int i = 0; i < e; i++) {
                b.due("v0[" + i + "]", 10 + i, b.tongue.element(0, i));
                b.due("v1[" + i + "]", 30 + i, b.tongue.element(1, i));
                b.due("v31[" + i + "]", LEAST + i, b.tongue.element(31, i));
            }
        }
    }

    private static void words() {
        b.fresh();
        int[] none = {-1, -2, -3, -4, 1, 2, 3, 5, 6, 7, 65529, 65530, 65531, 65533, 65534, 65535, 65536, 65537, 65540, LEAST, MOST, MOST - 3};
        for (int at : none) {
            b.throwing("word(" + at + ")", NONE, () -> b.tongue.word(at));
            throwing("setWord(" + at + ")", NONE, () -> b.tongue.setWord(at, -1));
        }
        for (int at : new int[] {0, 4, 8, 65524, 65528, 65532}) {
            b.due("nothing was set at " + at, 0, b.tongue.word(at));
            b.tongue.setWord(at, LEAST + at);
        }
        for (int at : new int[] {0, 4, 8, 65524, 65528, 65532}) {
            b.due("word(" + at + ")", LEAST + at, b.tongue.word(at));
        }
        b.fresh();
        b.tongue.setWord(100, 0x87654321);
        b.assemble("lbu x1,100(x0)\nlbu x2,101(x0)\nlbu x3,102(x0)\nlbu x4,103(x0)");
        b.tongue.steps(4);
        b.due("the lowest byte of a word first", "33 67 101 135",
                b.tongue.register(1) + " " + b.tongue.register(2) + " " + b.tongue.register(3) + " " + b.tongue.register(4));
    }

    private static void jump() {
        int[] none = {-1, -4, 1, 2, 3, 65533, 65534, 65535, 65536, 65540, LEAST, MOST, MOST - 3};
        for (int at : none) {
            b.fresh();
            b.assemble("nop\n.word 0");
            b.tongue.steps(2);
            throwing("jump(" + at + ")", ARGUMENT, () -> b.tongue.jump(at));
            b.due("state and PC stay", "2 4", looks(6, 7));
        }
        for (int at : new int[] {0, 4, 32768, 65532}) {
            b.fresh();
            b.assemble("nop\nebreak");
            b.tongue.steps(2);
            b.due("state and PC", "1 4", looks(6, 7));
            b.tongue.jump(at);
            b.due("state and PC behind jump(" + at + ")", "0 " + at, looks(6, 7));
        }
    }

    /** "The tape, which is used up, as a machine line: 0, or its error. (The machine .. is another one: it stays.)". */
    private static void machine() {
        b.fresh();
        b.assemble("vsetivli x1,2,e32,m2\n.word 0");
        b.tongue.steps(5);
        b.assemble("none");
        String before = looks(6, 10);
        String[] rows = {"=>0", "5=>0", "!=>1", "x=>2", "1+=>3", "1%0=>4", "2^31=>5", "1 2+1 2 3=>6", "{.0$0=>7", "i.4097=>8"};
        for (String row : rows) {
            int arrow = row.indexOf("=>");
            b.feed(row.substring(0, arrow));
            b.due(row, Integer.parseInt(row.substring(arrow + 2)), b.tongue.machine());
            b.due(row + " used up", 0, b.tongue.look(0));
            b.due("the vector machine stays", before, looks(6, 10));
        }
        b.feed(" ".repeat(401));
        b.due("401 blanks", 9, b.tongue.machine());
        b.due("x1 stays", 2, b.tongue.register(1));
        b.machineLine("_2147483648 2147483647", "2: -2147483648 2147483647");
        b.machineLine("2147483648", "error 5");
        b.line("2147483648", ": 2147483648");
    }

    private static void axesAndAtoms() {
        for (int kind = 0; kind < 2; kind++) {
            String[] lines = {"5", "0$0", ",5", "2 3$i.6", "1 1 1 1 1$7", "2 0 3$1", "i.4096"};
            int[] axes = {0, 1, 1, 2, 5, 3, 1};
            int[] atoms = {1, 0, 1, 6, 1, 0, 4096};
            for (int n = 0; n < lines.length; n++) {
                b.fresh();
                b.feed(lines[n]);
                b.due(lines[n], 0, kind == 0 ? b.tongue.line() : b.tongue.machine());
                b.due(lines[n] + " looks", "1 " + axes[n] + " " + atoms[n], looks(1, 3));
                for (int k : new int[] {-1, axes[n], axes[n] + 1, 5, LEAST, MOST}) {
                    b.throwing("axis(" + k + ") of " + lines[n], NONE, () -> b.tongue.axis(k));
                }
                for (int k : new int[] {-1, atoms[n], atoms[n] + 1, 4096, LEAST, MOST}) {
                    b.throwing("atom(" + k + ") of " + lines[n], NONE, () -> b.tongue.atom(k));
                }
                if (axes[n] > 0) {
                    b.throwing("the last axis", "answers", () -> b.tongue.axis(axes()));
                }
                if (atoms[n] > 0) {
                    b.throwing("the last atom", "answers", () -> b.tongue.atom(b.tongue.look(3) - 1));
                }
            }
            for (String text : new String[] {"", "+", "1%0", "!", " ".repeat(401)}) {
                b.fresh();
                b.line("2 3$1", "2 3: 1 1 1 1 1 1");
                b.feed(text);
                int answer = kind == 0 ? b.tongue.line() : b.tongue.machine();
                b.throwing("axis(0) behind '" + text + "' " + answer, NONE, () -> b.tongue.axis(0));
                b.throwing("atom(0) behind '" + text + "' " + answer, NONE, () -> b.tongue.atom(0));
            }
        }
        b.fresh();
        b.line("4611686018427387904 _4611686018427387904", "2: 4611686018427387904 -4611686018427387904");
        // Other calls leave the latest line's value.
        b.assemble("nop");
        b.tongue.vector(2);
        b.tongue.steps(1);
        b.name("x");
        b.tongue.forget();
        b.tongue.feed(1, '7');
        b.due("the value stays", "2: 4611686018427387904 -4611686018427387904", b.value());
    }

    private static int axes() {
        return b.tongue.look(2) - 1;
    }

    /** "What a name is (the tape is just the name): 0 nothing, also for what is no name, 1 an array, 2 a verb". */
    private static void name() {
        b.fresh();
        b.line("a=.5", ": 5");
        b.line("f=.+", "verb");
        b.line("i=.5", ": 5");
        b.line("aB9=.0$0", "0:");
        b.due("a", 1, b.name("a"));
        b.due("f", 2, b.name("f"));
        b.due("i", 1, b.name("i"));
        b.due("aB9", 1, b.name("aB9"));
        for (String none : new String[] {"", " ", "b", "A", "F", "aB", "aB99", "a ", " a", "a a", "+", "5", "_", "i.", "e.", "a=.5", "a.", "\0",
            "a\0", "\u00ff", " ".repeat(401), "a".repeat(401)}) {
            b.due("'" + none + "'", 0, b.name(none));
            b.due("the tape is used up", 0, b.tongue.look(0));
        }
        b.due("the latest line stays", "1 1 0", looks(1, 3));
        b.line("a=.+", "verb");
        b.due("a, a verb now", 2, b.name("a"));
        b.line("a=.1%0", "error 4");
        b.due("a as it was", 2, b.name("a"));
        b.machineLine("m=.5", ": 5");
        b.due("a name of a machine line", 1, b.name("m"));
        b.tongue.forget();
        b.due("a behind forget", 0, b.name("a"));
    }

    /** "All names go: how many there were", "At most 40 names". */
    private static void forget() {
        b.fresh();
        b.due("of none", 0, b.tongue.forget());
        for (int round = 0; round < 2; round++) {
            b.fresh();
            StringBuilder s = new StringBuilder();
            for (int k = 0; k < 40; k++) {
                s.append('n').append(k).append("=.");
            }
            b.line(s + "7", ": 7");
            b.due("names", 40, b.tongue.look(4));
            b.line("m=.7", "error 9");
            b.due("look(1)", 0, b.tongue.look(1));
            b.due("names", 40, b.tongue.look(4));
            b.due("m", 0, b.name("m"));
            b.line("n39=.8", ": 8");
            b.due("forget()", 40, b.tongue.forget());
            b.due("again", 0, b.tongue.forget());
            b.due("names", 0, b.tongue.look(4));
            b.line("n0", "error 2");
            b.line("m=.9", ": 9");
            b.due("one", 1, b.tongue.look(4));
            b.due("forget()", 1, b.tongue.forget());
        }
        b.line("f=.+", "verb");
        b.line("f=.5", ": 5");
        b.due("a name given twice is one", 1, b.tongue.forget());
    }

    private static void look() {
        b.fresh();
        for (int what : new int[] {-1, 11, 12, LEAST, MOST}) {
            b.throwing("look(" + what + ")", ARGUMENT, () -> b.tongue.look(what));
        }
        for (int what = 0; what <= 10; what++) {
            int w = what;
            b.throwing("look(" + what + ")", "answers", () -> b.tongue.look(w));
        }
        b.line("n=.2 3$i.6", "2 3: 0 1 2 3 4 5");
        b.due("an array", "0 1 2 6 1 14", looks(0, 5));
        b.line("n", "2 3: 0 1 2 3 4 5");
        b.due("a name", "0 1 2 6 1 7", looks(0, 5));
        b.line("+/", "verb");
        b.due("a verb", "0 2 -1 -1 1 0", looks(0, 5));
        b.line("n%0", "error 4");
        b.due("an error", "0 0 -1 -1 1 7", looks(0, 5));
        b.line("(1%0)+(i.3)", "error 4");
        b.due("an error behind work", "0 0 -1 -1 1 4", looks(0, 5));
        b.line("", "nothing");
        b.due("nothing", "0 0 -1 -1 1 0", looks(0, 5));
        b.tongue.feed(3, 0);
        b.due("a tape", "3 0 -1 -1 1 0", looks(0, 5));
        b.tongue.assemble();
        b.due("look(9)", 1, b.tongue.look(9));
        b.assemble("nop\nnop\n\nnone");
        b.due("look(9)", 4, b.tongue.look(9));
        b.line("3", ": 3");
        b.tongue.vector(4);
        b.due("look(9) stays", 4, b.tongue.look(9));
        b.assemble("nop");
        b.due("look(9) without an error", 0, b.tongue.look(9));
    }
}
