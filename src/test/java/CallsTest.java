/** Promises 1, 2, 15 to 19, and that calls that throw change nothing. */
public final class CallsTest {
    private static final Bench b = new Bench("CallsTest");

    public static void main(String[] args) {
        newObject();
        feeding();
        axesAndAtoms();
        names();
        forgetting();
        looking();
        nothingChanges();
        b.end();
    }

    private static void looks(String when, int... wants) {
        for (int k = 0; k < wants.length; k++) {
            b.due(when + " look(" + k + ")", wants[k], b.tongue.look(k));
        }
    }

    private static void newObject() {
        b.fresh();
        looks("new:", 0, 0, -1, -1, 0, 0, 0, 0, 0, 0, 1);
        b.throwing("new: axis(0)", "NoSuchElementException", () -> b.tongue.axis(0));
        b.throwing("new: atom(0)", "NoSuchElementException", () -> b.tongue.atom(0));
        b.due("new: forget()", 0, b.tongue.forget());
        b.due("new: name()", 0, b.tongue.name());
        b.due("new: word(65532)", 0, b.tongue.word(65532));
        b.due("new: element(31, 3)", 0, b.tongue.element(31, 3));
        b.throwing("new: element(0, 4)", "IllegalArgumentException", () -> b.tongue.element(0, 4));
        b.due("new: line()", 0, b.tongue.line());
        b.due("new: look(1) behind line()", 0, b.tongue.look(1));
    }

    private static void feeding() {
        b.fresh();
        b.throwing("feed(0, 0)", "IllegalArgumentException", () -> b.tongue.feed(0, 0));
        b.throwing("feed(9, 0)", "IllegalArgumentException", () -> b.tongue.feed(9, 0));
        b.throwing("feed(-1, 0)", "IllegalArgumentException", () -> b.tongue.feed(-1, 0));
        b.due("feed(1, '7' and more)", 1, b.tongue.feed(1, 0x3937L));
        b.due("feed(2, \"+1\")", 3, b.tongue.feed(2, 0x312bL));
        b.due("look(0)", 3, b.tongue.look(0));
        b.due("line()", ": 8", b.answer(b.tongue.line()));
        b.due("look(0) behind it", 0, b.tongue.look(0));
        for (int k = 1; k <= 511; k++) {
            b.due("feed " + k, 8 * k, b.tongue.feed(8, 0x2020202020202020L));
        }
        b.throwing("feed(9, 0) of a tape nearly full", "IllegalArgumentException", () -> b.tongue.feed(9, 0));
        b.fresh();
        for (int k = 1; k <= 511; k++) {
            b.tongue.feed(8, 0x2020202020202020L);
        }
        b.due("feed up to 4095", 4095, b.tongue.feed(7, 0x20202020202020L));
        b.throwing("feed(2, 0) of 4095", "IllegalStateException", () -> b.tongue.feed(2, 0));
        b.throwing("feed(0, 0) of 4095", "IllegalArgumentException", () -> b.tongue.feed(0, 0));
        b.due("look(0) of 4095", 4095, b.tongue.look(0));
        b.due("feed up to 4096", 4096, b.tongue.feed(1, 32));
        b.throwing("feed(1, 0) of 4096", "IllegalStateException", () -> b.tongue.feed(1, 0));
        b.due("a line too long", 9, b.tongue.line());
        b.due("feed behind it", 8, b.tongue.feed(8, 0x3820202020202037L));
        b.due("line()", "2: 7 8", b.answer(b.tongue.line()));
    }

    private static void axesAndAtoms() {
        b.fresh();
        b.line("2 3$i.6", "2 3: 0 1 2 3 4 5");
        b.due("axis(1)", 3, b.tongue.axis(1));
        b.throwing("axis(2)", "NoSuchElementException", () -> b.tongue.axis(2));
        b.throwing("axis(-1)", "NoSuchElementException", () -> b.tongue.axis(-1));
        b.throwing("atom(6)", "NoSuchElementException", () -> b.tongue.atom(6));
        b.throwing("atom(-1)", "NoSuchElementException", () -> b.tongue.atom(-1));
        b.machineLine("3 0$1", "3 0:");
        b.due("axis(1) of a machine line", 0, b.tongue.axis(1));
        b.throwing("atom(0) without atoms", "NoSuchElementException", () -> b.tongue.atom(0));
        b.line("5", ": 5");
        b.throwing("axis(0) of an atom", "NoSuchElementException", () -> b.tongue.axis(0));
        b.due("atom(0) of an atom", 5L, b.tongue.atom(0));
        b.tongue.forget();
        b.name("a");
        b.due("atom(0) behind other calls", 5L, b.tongue.atom(0));
        b.line("+", "verb");
        b.throwing("atom(0) of a verb", "NoSuchElementException", () -> b.tongue.atom(0));
        b.line("7 8", "2: 7 8");
        b.line("7+", "error 3");
        b.throwing("axis(0) behind an error", "NoSuchElementException", () -> b.tongue.axis(0));
        b.throwing("atom(0) behind an error", "NoSuchElementException", () -> b.tongue.atom(0));
        b.line("a=.i.3", "3: 0 1 2");
        b.tongue.forget();
        b.due("atom(2) when its name is gone", 2L, b.tongue.atom(2));
    }

    private static void names() {
        b.fresh();
        b.line(")f=.+/", "error 3");
        b.due("f has its value all the same", 2, b.name("f"));
        b.due("abc has none", 0, b.name("abc"));
        b.line("abc=.4 5", "2: 4 5");
        b.due("abc", 1, b.name("abc"));
        b.due("the tape is used up", 0, b.tongue.look(0));
        b.due("ab", 0, b.name("ab"));
        b.due("abcd", 0, b.name("abcd"));
        b.due("ABC", 0, b.name("ABC"));
        b.due("abc and a blank", 0, b.name("abc "));
        b.due("a blank and abc", 0, b.name(" abc"));
        b.due("a sign", 0, b.name("+"));
        b.due("nothing", 0, b.name(""));
        b.due("bytes that are none", 0, b.name("\0\u00ff"));
        b.line("abc=.-", "verb");
        b.due("abc, now a verb", 2, b.name("abc"));
        b.line("f=.9", ": 9");
        b.due("f, now an array", 1, b.name("f"));
        b.due("look(1) stays", 1, b.tongue.look(1));
        b.line("i=.5", ": 5");
        b.line("e =. i", ": 5");
        b.due("i", 1, b.name("i"));
        b.due("names", 4, b.tongue.look(4));
        String longName = "n".repeat(397);
        b.line(longName + "=.71", "error 9");
        b.line(longName + "=.7", ": 7");
        b.due("a long name", 1, b.name(longName));
        b.due("a name too long", 0, b.name(longName + "nnnnnn"));
        b.line(longName, ": 7");
    }

    private static void forgetting() {
        b.fresh();
        for (int k = 0; k < 40; k++) {
            b.line("n" + k + "=." + k, ": " + k);
        }
        b.line("n40=.1", "error 9");
        b.due("look(1) of it", 0, b.tongue.look(1));
        b.line("n40", "error 2");
        b.line("n39=.n0=.+", "verb");
        b.line("n40=.+", "error 9");
        b.line("n40=.3+n7=.100", "error 9");
        b.line("n7", ": 100");
        b.due("look(4)", 40, b.tongue.look(4));
        b.due("forget()", 40, b.tongue.forget());
        b.due("look(4) behind it", 0, b.tongue.look(4));
        b.due("forget() again", 0, b.tongue.forget());
        b.line("n7", "error 2");
        b.line("n40=.1", ": 1");
        b.due("forget()", 1, b.tongue.forget());
    }

    private static void looking() {
        b.fresh();
        for (int what : new int[] {-1, 11, 100, Integer.MIN_VALUE, Integer.MAX_VALUE}) {
            b.throwing("look(" + what + ")", "IllegalArgumentException", () -> b.tongue.look(what));
        }
        b.line("a=.2 3$i.6", "2 3: 0 1 2 3 4 5");
        looks("an array:", 0, 1, 2, 6, 1, 14, 0, 0, 0, 0, 1);
        b.line("v=.+/", "verb");
        looks("a verb:", 0, 2, -1, -1, 2, 0);
        b.line("a+1 2 3", "error 6");
        looks("an error:", 0, 0, -1, -1, 2, 7);
        b.line("", "nothing");
        looks("nothing:", 0, 0, -1, -1, 2, 0);
        b.feed("abc");
        looks("a tape:", 3, 0);
        b.tongue.line();
        b.assemble("vsetivli x0, 3, e32, m2\nnop\nebreak");
        b.tongue.steps(1);
        looks("one step:", 0, 0, -1, -1, 2, 0, 0, 4, 3, 0, 2);
        b.tongue.steps(5);
        looks("stopped:", 0, 0, -1, -1, 2, 0, 1, 8, 3, 0, 2);
        b.assemble("nop\nnone\n");
        looks("an assembler's error:", 0, 0, -1, -1, 2, 0, 1, 8, 3, 2, 2);
        b.tongue.vector(8);
        looks("anew:", 0, 0, -1, -1, 2, 0, 0, 0, 0, 2, 1);
        b.assemble("");
        b.due("look(9) without an error", 0, b.tongue.look(9));
    }

    private static String state() {
        StringBuilder s = new StringBuilder();
        for (int k = 0; k <= 10; k++) {
            s.append(b.tongue.look(k)).append(' ');
        }
        for (int k = 0; k < 32; k++) {
            s.append(b.tongue.register(k)).append(' ');
            for (int i = 0; i < 4; i++) {
                s.append(b.tongue.element(k, i)).append(' ');
            }
        }
        for (int at = 0; at < 65536; at += 4) {
            s.append(b.tongue.word(at)).append(' ');
        }
        return s + b.value();
    }

    private static void nothingChanges() {
        b.fresh();
        b.line("a=.1 2 3", "3: 1 2 3");
        b.tongue.setRegister(3, 9);
        b.tongue.setElement(4, 3, 8);
        b.tongue.setWord(65532, 7);
        b.tongue.jump(16);
        for (int k = 0; k < 512; k++) {
            b.tongue.feed(8, 0x2020202020202020L);
        }
        String before = state();
        b.throwing("feed", "IllegalStateException", () -> b.tongue.feed(1, 65));
        b.throwing("feed", "IllegalArgumentException", () -> b.tongue.feed(9, 65));
        b.throwing("steps", "IllegalArgumentException", () -> b.tongue.steps(20001));
        b.throwing("steps", "IllegalArgumentException", () -> b.tongue.steps(-1));
        b.throwing("register", "IllegalArgumentException", () -> b.tongue.register(32));
        b.throwing("element", "IllegalArgumentException", () -> b.tongue.element(32, 0));
        b.throwing("word", "NoSuchElementException", () -> b.tongue.word(65536));
        b.throwing("axis", "NoSuchElementException", () -> b.tongue.axis(1));
        b.throwing("atom", "NoSuchElementException", () -> b.tongue.atom(3));
        b.throwing("look", "IllegalArgumentException", () -> b.tongue.look(11));
        b.throwing("vector", "IllegalArgumentException", () -> done(() -> b.tongue.vector(3)));
        b.throwing("setRegister", "IllegalArgumentException", () -> done(() -> b.tongue.setRegister(32, 1)));
        b.throwing("setRegister", "IllegalArgumentException", () -> done(() -> b.tongue.setRegister(-1, 1)));
        b.throwing("setElement", "IllegalArgumentException", () -> done(() -> b.tongue.setElement(0, 4, 1)));
        b.throwing("setElement", "IllegalArgumentException", () -> done(() -> b.tongue.setElement(-1, 0, 1)));
        b.throwing("setWord", "NoSuchElementException", () -> done(() -> b.tongue.setWord(2, 1)));
        b.throwing("jump", "IllegalArgumentException", () -> done(() -> b.tongue.jump(65536)));
        b.due("all is as it was", before, state());
    }

    private static long done(Runnable call) {
        call.run();
        return 0;
    }
}
