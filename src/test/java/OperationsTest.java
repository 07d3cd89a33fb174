import java.math.BigInteger;

/**
 * Promise 6: what words make of the numbers at their bounds, "by 0: quotients all ones, rests the first; the
 * least by -1: it, and 0" among them, for registers and for elements; and the ways of jumps, branches, loads
 * and stores up to the last that fit in their words.
 */
public final class OperationsTest {
    private static final Bench b = new Bench("OperationsTest");
    private static final int LEAST = Integer.MIN_VALUE;
    private static final int MOST = Integer.MAX_VALUE;
    private static final int[] EDGES = {0, 1, -1, 2, -2, 3, 15, -16, 31, 32, 33, 46341, 65536, LEAST, LEAST + 1, MOST, MOST - 1,
        0x55555555, 0xaaaaaaaa};
    private static final BigInteger WORD = BigInteger.ONE.shiftLeft(32);

    public static void main(String[] args) {
        registers();
        numbers();
        elements();
        comparisons();
        accumulators();
        branches();
        leaps();
        loadsAndStores();
        partsOfWords();
        b.end();
    }

    private static BigInteger big(int a, boolean signed) {
        return signed || a >= 0 ? BigInteger.valueOf(a) : BigInteger.valueOf(a).add(WORD);
    }

    private static int quotient(int a, int c, boolean signed, boolean rest) {
        BigInteger p = big(a, signed);
        BigInteger q = big(c, signed);
        if (q.signum() == 0) {
            return rest ? a : -1;
        }
        return (rest ? p.remainder(q) : p.divide(q)).intValue();
    }

    private static int high(int a, boolean aSigned, int c, boolean cSigned) {
        return big(a, aSigned).multiply(big(c, cSigned)).shiftRight(32).intValue();
    }

    /** What an order of two makes of them. */
    private static int of(String order, int a, int c) {
        switch (order) {
            case "add": return a + c;
            case "sub": return a - c;
            case "rsub": return c - a;
            case "sll": return (int) ((long) a << c % 32 + (c % 32 < 0 ? 32 : 0));
            case "srl": return big(a, false).shiftRight(Math.floorMod(c, 32)).intValue();
            case "sra": return big(a, true).shiftRight(Math.floorMod(c, 32)).intValue();
            case "slt": return big(a, true).compareTo(big(c, true)) < 0 ? 1 : 0;
            case "sltu": return big(a, false).compareTo(big(c, false)) < 0 ? 1 : 0;
            case "xor": return a ^ c;
            case "or": return a | c;
            case "and": return a & c;
            case "mul": return big(a, true).multiply(big(c, true)).intValue();
            case "mulh": return high(a, true, c, true);
            case "mulhsu": return high(a, true, c, false);
            case "mulhu": return high(a, false, c, false);
            case "div": return quotient(a, c, true, false);
            case "divu": return quotient(a, c, false, false);
            case "rem": return quotient(a, c, true, true);
            case "remu": return quotient(a, c, false, true);
            case "min": return big(a, true).min(big(c, true)).intValue();
            case "minu": return big(a, false).min(big(c, false)).intValue();
            case "max": return big(a, true).max(big(c, true)).intValue();
            case "maxu": return big(a, false).max(big(c, false)).intValue();
            default: throw new IllegalStateException(order);
        }
    }

    private static void registers() {
        String[] orders = {"add", "sub", "sll", "slt", "sltu", "xor", "srl", "sra", "or", "and", "mul", "mulh", "mulhsu", "mulhu",
            "div", "divu", "rem", "remu"};
        for (String order : orders) {
            for (int a : EDGES) {
                b.fresh();
                b.due(order, 1, b.assemble(order + " x31,x29,x27"));
                for (int c : EDGES) {
                    b.tongue.setRegister(29, a);
                    b.tongue.setRegister(27, c);
                    b.tongue.setRegister(31, 77);
                    b.tongue.jump(0);
                    b.tongue.steps(1);
                    b.due(order + " of " + a + " and " + c, of(order, a, c), b.tongue.register(31));
                }
            }
            b.assemble(order + " x0,x29,x29");
            b.tongue.steps(1);
            b.due(order + " to x0", 0, b.tongue.register(0));
        }
    }

    private static void numbers() {
        String[] orders = {"add", "slt", "sltu", "xor", "or", "and"};
        for (String order : orders) {
            String name = order.equals("sltu") ? "sltiu" : order + "i";
            for (int n : new int[] {-2048, -2047, -1, 0, 1, 2046, 2047}) {
                for (int a : EDGES) {
                    withNumber(name, order, a, n);
                }
                withNumber(name, order, n, n);
            }
        }
        for (String order : new String[] {"sll", "srl", "sra"}) {
            for (int n : new int[] {0, 1, 16, 30, 31}) {
                for (int a : EDGES) {
                    withNumber(order + "i", order, a, n);
                }
            }
        }
    }

    private static void withNumber(String name, String order, int a, int n) {
        b.fresh();
        b.tongue.setRegister(31, a);
        b.due(name + " " + n, 1, b.assemble(name + " x30,x31," + n));
        b.tongue.steps(1);
        b.due(name + " of " + a + " and " + n, of(order, a, n), b.tongue.register(30));
    }

    private static void elements() {
        String[] all = {"add", "sub", "and", "or", "xor", "sll", "srl", "sra", "min", "minu", "max", "maxu", "div", "divu", "rem",
            "remu", "mul", "mulh", "mulhsu", "mulhu"};
        for (String order : all) {
            ofElements("v" + order + ".vv", order, true);
            ofElements("v" + order + ".vx", order, false);
        }
        ofElements("vrsub.vx", "rsub", false);
        for (String order : new String[] {"add", "rsub", "and", "or", "xor"}) {
            for (int n = -16; n < 16; n++) {
                elementsWithNumber("v" + order + ".vi", order, n);
            }
        }
        for (String order : new String[] {"sll", "srl", "sra"}) {
            for (int n = 0; n < 32; n++) {
                elementsWithNumber("v" + order + ".vi", order, n);
            }
        }
    }

    /** Sets all elements that VL 16 (LMUL 4) has of a group to edges, from one on. */
    private static void fill(int register, int from) {
        for (int i = 0; i < 16; i++) {
            b.tongue.setElement(register + i / 4, i % 4, EDGES[(from + i) % EDGES.length]);
        }
    }

    private static void ofElements(String name, String order, boolean vector) {
        for (int turn = 0; turn < EDGES.length; turn++) {
            b.fresh();
            fill(28, 0);
            fill(24, turn);
            b.tongue.setRegister(25, EDGES[turn]);
            b.due(name, 2, b.assemble("vsetivli x0,16,e32,m4\n" + name + " v20,v28," + (vector ? "v24" : "x25")));
            b.tongue.steps(2);
            for (int i = 0; i < 16; i++) {
                int c = EDGES[vector ? (turn + i) % EDGES.length : turn];
                b.due(name + " of " + EDGES[i] + " and " + c, of(order, EDGES[i], c), b.tongue.element(20 + i / 4, i % 4));
            }
        }
    }

    private static void elementsWithNumber(String name, String order, int n) {
        b.fresh();
        fill(28, 0);
        b.due(name, 2, b.assemble("vsetivli x0,16,e32,m4\n" + name + " v20,v28," + n));
        b.tongue.steps(2);
        for (int i = 0; i < 16; i++) {
            b.due(name + " of " + EDGES[i] + " and " + n, of(order, EDGES[i], n), b.tongue.element(20 + i / 4, i % 4));
        }
    }

    private static boolean compared(String order, int a, int c) {
        boolean unsigned = order.endsWith("u");
        int way = big(a, !unsigned).compareTo(big(c, !unsigned));
        switch (unsigned ? order.substring(0, order.length() - 1) : order) {
            case "seq": return way == 0;
            case "sne": return way != 0;
            case "slt": return way < 0;
            case "sle": return way <= 0;
            case "sgt": return way > 0;
            default: throw new IllegalStateException(order);
        }
    }

    private static void comparisons() {
        String[] forms = {"seq vxi", "sne vxi", "sltu vx", "slt vx", "sleu vxi", "sle vxi", "sgtu xi", "sgt xi"};
        for (String form : forms) {
            String order = form.split(" ")[0];
            for (char kind : form.split(" ")[1].toCharArray()) {
                for (int turn = 0; turn < (kind == 'i' ? 32 : EDGES.length); turn++) {
                    comparison(order, kind, kind == 'i' ? turn - 16 : turn);
                }
            }
        }
    }

    private static void comparison(String order, char kind, int turn) {
        b.fresh();
        fill(28, 0);
        fill(24, kind == 'v' ? turn : 0);
        b.tongue.setRegister(25, kind == 'x' ? EDGES[turn] : 0);
        b.tongue.setElement(19, 0, 0x0ff0ff00);
        String name = "vm" + order + ".v" + kind;
        String other = kind == 'v' ? "v24" : kind == 'x' ? "x25" : "" + turn;
        b.due(name, 2, b.assemble("vsetivli x0,16,e32,m4\n" + name + " v19,v28," + other));
        b.tongue.steps(2);
        int want = 0x0ff00000;
        for (int i = 0; i < 16; i++) {
            int c = kind == 'i' ? turn : EDGES[kind == 'v' ? (turn + i) % EDGES.length : turn];
            want |= compared(order, EDGES[i], c) ? 1 << i : 0;
        }
        b.due(name + " with " + other + ", turn " + turn, want, b.tongue.element(19, 0));
        b.due(name + " leaves what is behind", 0, b.tongue.element(19, 1));
    }

    /** VMADD vd times the first, and vs2; VNMSUB vs2 less that; VMACC first times vs2, and vd; VNMSAC vd less that. */
    private static void accumulators() {
        for (String order : new String[] {"vmadd", "vnmsub", "vmacc", "vnmsac"}) {
            for (int turn = 0; turn < EDGES.length; turn++) {
                for (String other : new String[] {".vv v20,v24,v28", ".vx v20,x25,v28"}) {
                    b.fresh();
                    fill(28, 0);
                    fill(24, turn);
                    fill(20, 2 * turn);
                    b.tongue.setRegister(25, EDGES[turn]);
                    b.due(order, 2, b.assemble("vsetivli x0,16,e32,m4\n" + order + other));
                    b.tongue.steps(2);
                    for (int i = 0; i < 16; i++) {
                        int first = EDGES[other.contains("vv") ? (turn + i) % EDGES.length : turn];
                        int old = EDGES[(2 * turn + i) % EDGES.length];
                        b.due(order + other + " turn " + turn + ", " + i, accumulated(order, first, EDGES[i], old),
                                b.tongue.element(20 + i / 4, i % 4));
                    }
                }
            }
        }
    }

    private static int accumulated(String order, int first, int vs2, int vd) {
        BigInteger f = BigInteger.valueOf(first);
        BigInteger s = BigInteger.valueOf(vs2);
        BigInteger d = BigInteger.valueOf(vd);
        switch (order) {
            case "vmadd": return d.multiply(f).add(s).intValue();
            case "vnmsub": return s.subtract(d.multiply(f)).intValue();
            case "vmacc": return f.multiply(s).add(d).intValue();
            default: return d.subtract(f.multiply(s)).intValue();
        }
    }

    /** Puts bits of a number at a word's places: the places, highest first, and which bits. */
    private static int spread(int number, int[] places, int[] which) {
        int word = 0;
        for (int k = 0; k < places.length; k++) {
            word |= (number >>> which[k] & 1) << places[k];
        }
        return word;
    }

    private static void branches() {
        int[] places = {31, 30, 29, 28, 27, 26, 25, 11, 10, 9, 8, 7};
        int[] which = {12, 10, 9, 8, 7, 6, 5, 4, 3, 2, 1, 11};
        int[] ways = {-4096, -4092, -2048, -1028, -4, 0, 4, 8, 16, 32, 64, 128, 256, 512, 1024, 2044, 2048, 2052, 4092};
        int[] kinds = {0, 1, 4, 5, 6, 7};
        for (int way : ways) {
            for (int kind : kinds) {
                b.fresh();
                b.tongue.setRegister(29, kind == 1 || kind == 5 || kind == 7 ? 5 : 4);
                b.tongue.setRegister(27, kind == 0 || kind == 1 ? 4 : kind == 4 || kind == 6 ? 5 : 3);
                b.tongue.setWord(32768, spread(way, places, which) | 27 << 20 | 29 << 15 | kind << 12 | 0x63);
                b.tongue.jump(32768);
                b.due("a branch is a step", 1, b.tongue.steps(1));
                b.due("a branch " + kind + " by " + way, 32768 + way, b.tongue.look(7));
                b.due("its state", 0, b.tongue.look(6));
                b.due("x1 behind a branch", 0, b.tongue.register(1));
            }
        }
        for (int way : new int[] {2, -2, 4094, -4094}) {
            b.fresh();
            b.tongue.setWord(32768, spread(way, places, which) | 0x63);
            b.tongue.jump(32768);
            b.tongue.steps(1);
            b.due("a branch by " + way, "2 32768", b.tongue.look(6) + " " + b.tongue.look(7));
        }
    }

    private static void leaps() {
        int[] places = new int[20];
        int[] which = new int[20];
        for (int k = 0; k < 20; k++) {
            places[k] = 31 - k;
            which[k] = k == 0 ? 20 : k < 11 ? 11 - k : k == 11 ? 11 : 31 - k;
        }
        int[] ways = {-1048576, -1048572, -524288, -4096, -2048, -4, 0, 4, 8, 1024, 2048, 2052, 4092, 4096, 8192, 65536, 131072, 262144,
            524288, 1048572};
        for (int way : ways) {
            b.fresh();
            b.tongue.setWord(32768, spread(way, places, which) | 31 << 7 | 0x6f);
            b.tongue.jump(32768);
            b.tongue.steps(1);
            b.due("jal by " + way, 32768 + way, b.tongue.look(7));
            b.due("jal's rd", 32772, b.tongue.register(31));
            b.due("jal's state", 0, b.tongue.look(6));
            int aim = 32768 + way;
            if (aim < 0 || aim > 65532) {
                b.due("a step there", 1, b.tongue.steps(3));
                b.due("is a fault", "2 " + aim, b.tongue.look(6) + " " + b.tongue.look(7));
            }
        }
        for (int way : new int[] {2, -2, 1048574}) {
            b.fresh();
            b.tongue.setWord(32768, spread(way, places, which) | 31 << 7 | 0x6f);
            b.tongue.jump(32768);
            b.tongue.steps(1);
            b.due("jal by " + way, "2 32768 0", b.tongue.look(6) + " " + b.tongue.look(7) + " " + b.tongue.register(31));
        }
        // "JALR's aim without its lowest bit"; 2^32 goes round.
        int[][] aims = {{32768, -2048, 30720}, {32768, 2047, 34814}, {32769, 0, 32768}, {32768, 1, 32768}, {32765, 3, 32768},
            {-4, 4, 0}, {-4, 5, 0}, {-4, 8, 4}, {0, -4, -4}, {65532, 4, 65536}, {MOST - 3, 4, LEAST}, {LEAST, -4, MOST - 3}};
        for (int[] aim : aims) {
            b.fresh();
            b.tongue.setRegister(29, aim[0]);
            b.assemble("jalr x29," + aim[1] + "(x29)");
            b.tongue.steps(1);
            boolean fits = (aim[2] & 3) == 0;
            b.due("jalr to " + aim[0] + " and " + aim[1], fits ? "0 " + aim[2] + " 4" : "2 0 " + aim[0],
                    b.tongue.look(6) + " " + b.tongue.look(7) + " " + b.tongue.register(29));
        }
    }

    private static void loadsAndStores() {
        int[] ways = {-2048, -2044, -1028, -1024, -512, -256, -128, -64, -36, -32, -4, 0, 4, 8, 16, 28, 32, 64, 128, 256, 512, 1024, 2044};
        for (int way : ways) {
            b.fresh();
            b.tongue.setRegister(29, 32768);
            b.tongue.setRegister(27, 0x87654321);
            b.assemble("sw x27," + way + "(x29)\nlw x31," + way + "(x29)\nsb x29," + (way + 3) + "(x29)\nlhu x30," + (way + 2)
                    + "(x29)\nlb x28," + (way + 1) + "(x29)");
            b.tongue.steps(2);
            b.due("sw at " + way, 0x87654321, b.tongue.word(32768 + way));
            b.due("lw at " + way, 0x87654321, b.tongue.register(31));
            b.tongue.steps(3);
            b.due("sb", 0x00654321, b.tongue.word(32768 + way));
            b.due("lhu", 0x0065, b.tongue.register(30));
            b.due("lb", 0x43, b.tongue.register(28));
            b.due("state", 0, b.tongue.look(6));
        }
        // "Each address modulo 2^32", "not within the memory (all bytes)", "half-words and words not of 2 and 4".
        String[] orders = {"lb 1", "lbu 1", "lh 2", "lhu 2", "lw 4", "sb 1", "sh 2", "sw 4"};
        for (String order : orders) {
            int bytes = order.charAt(order.length() - 1) - '0';
            String name = order.substring(0, order.indexOf(' '));
            for (int at : new int[] {-4, -3, -2, -1, 0, 1, 2, 3, 4, 65531, 65532, 65533, 65534, 65535, 65536, 65540, LEAST, MOST, MOST - 3}) {
                for (int way : new int[] {0, -4, 8}) {
                    address(name, at, way, at >= 0 && at <= 65536 - bytes && at % bytes == 0);
                }
            }
        }
    }

    private static void address(String name, int at, int way, boolean right) {
        b.fresh();
        b.tongue.setRegister(29, at - way);
        b.tongue.setRegister(27, 0x12345678);
        b.assemble("nop\nnop\nnop\n" + name + " x27," + way + "(x29)");
        b.tongue.jump(12);
        b.due(name + " is a step", 1, b.tongue.steps(1));
        String what = name + " at " + at + " by " + way;
        b.due(what, right ? 0 : 2, b.tongue.look(6));
        b.due(what + " PC", right ? 16 : 12, b.tongue.look(7));
        boolean loads = name.startsWith("l");
        b.due(what + " x27", right && loads, b.tongue.register(27) != 0x12345678);
        int word = at & 65532;
        int before = word < 12 ? 0x13 : word == 12 ? b.tongue.word(12) : 0;
        b.due(what + " memory", right && !loads, b.tongue.word(word) != before);
    }

    /** Bytes and half-words at each place of a word, with a sign and without; stores leave the others. */
    private static void partsOfWords() {
        for (int word : new int[] {0x87654321, 0x7f80ff01, -1, 0, 0x00008000, 0x00800080}) {
            for (int k = 0; k < 4; k++) {
                part("lb", k, word, (byte) (word >> 8 * k), word);
                part("lbu", k, word, word >> 8 * k & 0xff, word);
                part("sb", k, word, 0xa1b2c3d4, word & ~(0xff << 8 * k) | 0xd4 << 8 * k);
                if (k % 2 == 0) {
                    part("lh", k, word, (short) (word >> 8 * k), word);
                    part("lhu", k, word, word >> 8 * k & 0xffff, word);
                    part("sh", k, word, 0xa1b2c3d4, word & ~(0xffff << 8 * k) | 0xc3d4 << 8 * k);
                }
            }
            part("lw", 0, word, word, word);
            part("sw", 0, word, 0xa1b2c3d4, 0xa1b2c3d4);
        }
    }

    private static void part(String order, int at, int word, int x27, int after) {
        b.fresh();
        b.tongue.setRegister(27, 0xa1b2c3d4);
        b.tongue.setWord(1000, 0x11111111);
        b.tongue.setWord(1004, word);
        b.tongue.setWord(1008, 0x22222222);
        b.assemble(order + " x27," + (1004 + at) + "(x0)");
        b.tongue.steps(1);
        String what = order + " at " + at + " of " + Integer.toHexString(word);
        b.due(what, x27, b.tongue.register(27));
        b.due(what + ", the word", after, b.tongue.word(1004));
        b.due(what + ", its neighbours", 0x33333333, b.tongue.word(1000) + b.tongue.word(1008));
    }
}
