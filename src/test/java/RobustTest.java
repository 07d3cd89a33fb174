import java.util.NoSuchElementException;
import java.util.Random;

/**
 * All promises: runs of calls with any arguments in any state (told by a seed, so always the same). A call throws
 * what the document names for it and where it names it, and nothing else; a call that throws changes no look.
 */
public final class RobustTest {
    private static final Bench b = new Bench("RobustTest");
    private static final Random random = new Random(20261116);
    private static final String[] WORDS = {"+", "-", "*", "%", "^", "|", "<", ">", "=", "<:", ">:", "<.", ">.", "~:", "+.", "*.", "-.", "$", "#",
        ",", "i.", "{.", "}.", "{", "|.", "|:", "/:", "\\:", "e.", "~.", "[", "]", "/", "\\", "~", "\"", "&", "@", "=.", "(", ")", "0", "1", "2",
        "3", "_1", "4096", "4611686018427387904", "_4611686018427387904", "2147483648", "i.4096", "(2 3$i.6)", "(0 3$1)", "(0$0)", "\"0", "\"1",
        "\"_1", "a", "b", "f", "a=.", "b=.", "f=.", "/", "/", "(", ")", " ", "64 64$", "1 2 3", "!", "_"};
    private static final String[] ORDERS = {"add x1,x2,x3", "li x5,70000", "sw x1,0(x5)", "lw x2,-4(x5)", "beqz x1,a", "j a", "jalr x1,4(x2)",
        "vsetvli x1,x2,e32,m4", "vsetivli x1,9,e32,m8", "vadd.vv v8,v16,v24", "vslideup.vx v8,v16,x1", "vrgather.vv v8,v16,v24",
        "vle32.v v8,(x5)", "vsse32.v v8,(x5),x2", "vcompress.vm v8,v16,v1", "viota.m v8,v1", "ebreak", "nop", ".word 99", "add x1", "li x1,9999999999"};
    private static final int[] EDGES = {-1, 0, 1, 2, 3, 4, 5, 8, 9, 10, 11, 16, 31, 32, 100, 4095, 4096, 20000, 20001, 65532, 65535, 65536,
        Integer.MIN_VALUE, Integer.MAX_VALUE};

    private static int taped;
    private static int wide;

    public static void main(String[] args) {
        for (int run = 0; run < 1000; run++) {
            b.fresh();
            taped = 0;
            wide = 4;
            int calls = 0;
            while (calls < 440) {
                calls += some(run % 5);
            }
        }
        b.end();
    }

    private static int edge() {
        return random.nextInt(4) == 0 ? random.nextInt() : EDGES[random.nextInt(EDGES.length)];
    }

    private static String looks() {
        StringBuilder s = new StringBuilder();
        for (int k = 0; k <= 10; k++) {
            s.append(b.tongue.look(k)).append(' ');
        }
        return s.toString();
    }

    /** A call that throws want, or nothing for "answers"; all looks stay if it throws. */
    private static void call(String call, String want, Bench.Call made) {
        String before = want.equals("answers") ? "" : looks();
        String got = "answers";
        try {
            made.answer();
        } catch (IllegalArgumentException | IllegalStateException | NoSuchElementException e) {
            got = e.getClass().getSimpleName();
        } catch (RuntimeException e) {
            got = "the machine's " + e.getClass().getSimpleName();
        }
        b.due(call, want, got);
        if (!before.isEmpty()) {
            b.due("looks behind " + call, before, looks());
        }
    }

    private static void feed(String text) {
        if (taped + text.length() <= 4096) {
            b.feed(text);
            taped += text.length();
        }
    }

    private static String line() {
        StringBuilder s = new StringBuilder();
        int many = random.nextInt(20);
        for (int k = 0; k < many; k++) {
            s.append(WORDS[random.nextInt(WORDS.length)]).append(random.nextInt(3) == 0 ? " " : "");
        }
        if (random.nextInt(12) == 0) {
            s.append((char) random.nextInt(256));
        }
        return s.toString();
    }

    private static String program() {
        StringBuilder s = new StringBuilder("a: ");
        int many = random.nextInt(12);
        for (int k = 0; k < many; k++) {
            s.append(ORDERS[random.nextInt(random.nextInt(3) == 0 ? ORDERS.length : ORDERS.length - 3)]).append('\n');
        }
        return s.toString();
    }

    /** Some calls of one kind: how many. */
    private static int some(int kind) {
        int k = edge();
        int i = edge();
        switch (random.nextInt(kind < 2 ? 22 : 16)) {
            case 0:
                call("feed " + k, k < 1 || k > 8 ? "IllegalArgumentException" : taped + k > 4096 ? "IllegalStateException" : "answers",
                        () -> b.tongue.feed(k, random.nextLong()));
                taped += k >= 1 && k <= 8 && taped + k <= 4096 ? k : 0;
                return 1;
            case 1:
                boolean right = k == 2 || k == 4 || k == 8 || k == 16;
                call("vector " + k, right ? "answers" : "IllegalArgumentException", () -> done(() -> b.tongue.vector(k)));
                wide = right ? k : wide;
                return 1;
            case 2:
                call("steps " + k, k >= 0 && k <= 20000 ? "answers" : "IllegalArgumentException", () -> b.tongue.steps(k));
                return 1;
            case 3:
                call("register " + k, k >= 0 && k < 32 ? "answers" : "IllegalArgumentException", () -> b.tongue.register(k));
                call("setRegister " + k, k >= 0 && k < 32 ? "answers" : "IllegalArgumentException",
                        () -> done(() -> b.tongue.setRegister(k, i)));
                return 2;
            case 4:
                String element = k >= 0 && k < 32 && i >= 0 && i < wide ? "answers" : "IllegalArgumentException";
                call("element " + k + " " + i, element, () -> b.tongue.element(k, i));
                call("setElement " + k + " " + i, element, () -> done(() -> b.tongue.setElement(k, i, random.nextInt())));
                return 2;
            case 5:
                boolean word = k >= 0 && k <= 65532 && k % 4 == 0;
                call("word " + k, word ? "answers" : "NoSuchElementException", () -> b.tongue.word(k));
                call("setWord " + k, word ? "answers" : "NoSuchElementException", () -> done(() -> b.tongue.setWord(k, i)));
                call("jump " + k, word ? "answers" : "IllegalArgumentException", () -> done(() -> b.tongue.jump(k)));
                return 3;
            case 6:
                call("axis " + k, k >= 0 && k < b.tongue.look(2) ? "answers" : "NoSuchElementException", () -> b.tongue.axis(k));
                call("atom " + k, k >= 0 && k < b.tongue.look(3) ? "answers" : "NoSuchElementException", () -> b.tongue.atom(k));
                return 2;
            case 7:
                call("look " + k, k >= 0 && k <= 10 ? "answers" : "IllegalArgumentException", () -> b.tongue.look(k));
                return 1;
            case 8:
                call("name", "answers", () -> b.tongue.name());
                taped = 0;
                return 1;
            case 9:
                call("forget", "answers", () -> b.tongue.forget());
                return 1;
            case 10:
                feed(program());
                call("assemble", "answers", () -> b.tongue.assemble());
                taped = 0;
                return 30;
            case 11:
                return anyWords();
            default:
                feed(line());
                call("line", "answers", () -> random.nextBoolean() ? b.tongue.line() : b.tongue.machine());
                taped = 0;
                return 8;
        }
    }

    /** Words of any bits, more often such as there are, and steps on them. */
    private static int anyWords() {
        int at = 4 * random.nextInt(16384 - 32);
        int[] opcodes = {0x37, 0x17, 0x6f, 0x67, 0x63, 0x03, 0x23, 0x13, 0x33, 0x57, 0x57, 0x57, 0x57, 0x07, 0x27};
        b.tongue.jump(at);
        for (int k = 0; k < 16; k++) {
            int word = random.nextInt();
            b.tongue.setWord(at + 4 * k, k == 0 ? 0xc1007057 | word & 0x000f8f80 | (word & 3) << 20
                    : word & ~127 | opcodes[random.nextInt(opcodes.length)]);
        }
        for (int k = 0; k < 16; k++) {
            call("a step", "answers", () -> b.tongue.steps(1));
            if (b.tongue.look(6) != 0) {
                b.tongue.jump(at + 4 * k + (k < 15 ? 4 : 0));
            }
        }
        b.due("VL", true, b.tongue.look(8) >= 0 && b.tongue.look(8) <= b.tongue.look(10) * wide);
        b.due("x0", 0, b.tongue.register(0));
        return 60;
    }

    private static long done(Runnable call) {
        call.run();
        return 0;
    }
}
