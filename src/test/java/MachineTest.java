/** Promises 4 and 6 to 13: the machine's registers, memory and states, its scalar words, and its faults. */
public final class MachineTest {
    private static final Bench b = new Bench("MachineTest");
    private static final int LEAST = Integer.MIN_VALUE;

    public static void main(String[] args) {
        registersAndMemory();
        anew();
        stepping();
        scalars();
        products();
        memoryWords();
        jumps();
        wordsThatAreNone();
        lengths();
        groups();
        vectorMemory();
        maskedAndBefore();
        otherWidths();
        b.end();
    }

    private static void registersAndMemory() {
        b.fresh();
        for (int k : new int[] {-1, 32, LEAST, Integer.MAX_VALUE}) {
            b.throwing("register(" + k + ")", "IllegalArgumentException", () -> b.tongue.register(k));
            b.throwing("element(" + k + ", 0)", "IllegalArgumentException", () -> b.tongue.element(k, 0));
        }
        b.throwing("element(0, -1)", "IllegalArgumentException", () -> b.tongue.element(0, -1));
        b.tongue.setRegister(31, -5);
        b.tongue.setRegister(0, 9);
        b.due("x31", -5, b.tongue.register(31));
        b.due("x0", 0, b.tongue.register(0));
        b.tongue.setElement(31, 3, LEAST);
        b.tongue.setElement(0, 0, 6);
        b.due("v31[3]", LEAST, b.tongue.element(31, 3));
        b.due("v0[0]", 6, b.tongue.element(0, 0));
        b.due("v31[2]", 0, b.tongue.element(31, 2));
        for (int at : new int[] {-4, 1, 2, 3, 65533, 65534, 65536, LEAST, 0x7ffffffc}) {
            b.throwing("word(" + at + ")", "NoSuchElementException", () -> b.tongue.word(at));
            b.throwing("jump(" + at + ")", "IllegalArgumentException", () -> jump(at));
        }
        b.tongue.setWord(65532, 77);
        b.tongue.setWord(0, -1);
        b.due("word(65532)", 77, b.tongue.word(65532));
        b.due("word(0)", -1, b.tongue.word(0));
        b.due("word(4)", 0, b.tongue.word(4));
        b.tongue.jump(65532);
        b.due("PC", 65532, b.tongue.look(7));
        b.due("a word that is none", 1, b.tongue.steps(3));
        b.due("state", 2, b.tongue.look(6));
        b.tongue.jump(8);
        b.due("state behind jump", 0, b.tongue.look(6));
    }

    private static long jump(int at) {
        b.tongue.jump(at);
        return 0;
    }

    private static long vector(int e) {
        b.tongue.vector(e);
        return 0;
    }

    private static void anew() {
        b.fresh();
        for (int e : new int[] {-2, 0, 1, 3, 5, 6, 12, 32, LEAST}) {
            b.throwing("vector(" + e + ")", "IllegalArgumentException", () -> vector(e));
        }
        b.line("a=.5", ": 5");
        for (int e : new int[] {2, 4, 8, 16}) {
            b.assemble("vsetivli x5, 2, e32, m8\nvid.v v8\nsw x5, 100(x0)\nnone: ebreak");
            b.tongue.steps(9);
            b.due("state", 1, b.tongue.look(6));
            b.tongue.vector(e);
            for (int k = 6; k <= 8; k++) {
                b.due("look(" + k + ") behind vector", 0, b.tongue.look(k));
            }
            b.due("LMUL behind vector", 1, b.tongue.look(10));
            b.due("x5 behind vector", 0, b.tongue.register(5));
            b.due("v8[1] behind vector", 0, b.tongue.element(8, 1));
            b.due("word 0 behind vector", 0, b.tongue.word(0));
            b.due("word 100 behind vector", 0, b.tongue.word(100));
            b.due("the last element", 0, b.tongue.element(31, e - 1));
            b.throwing("an element beyond", "IllegalArgumentException", () -> b.tongue.element(31, e));
        }
        b.due("names stay", 1, b.tongue.look(4));
        b.due("the line's value stays", ": 5", b.value());
        b.feed("ab");
        b.tongue.vector(4);
        b.due("the tape stays", 2, b.tongue.look(0));
    }

    private static void stepping() {
        b.fresh();
        b.throwing("steps(-1)", "IllegalArgumentException", () -> b.tongue.steps(-1));
        b.throwing("steps(20001)", "IllegalArgumentException", () -> b.tongue.steps(20001));
        b.assemble("a: addi x1,x1,1\nj a");
        b.due("steps(0)", 0, b.tongue.steps(0));
        b.due("steps(1)", 1, b.tongue.steps(1));
        b.due("PC", 4, b.tongue.look(7));
        b.due("steps(20000)", 20000, b.tongue.steps(20000));
        b.due("x1", 10001, b.tongue.register(1));
        b.assemble("nop\nebreak\nnop");
        b.due("steps up to ebreak", 2, b.tongue.steps(10));
        b.due("state", 1, b.tongue.look(6));
        b.due("PC stays", 4, b.tongue.look(7));
        b.due("no more steps", 0, b.tongue.steps(10));
        b.assemble("nop\n.word 0");
        b.due("steps up to a fault", 2, b.tongue.steps(10));
        b.due("state", 2, b.tongue.look(6));
        b.due("PC stays", 4, b.tongue.look(7));
        b.due("no more steps", 0, b.tongue.steps(10));
        b.tongue.jump(65532);
        b.tongue.setWord(65532, 0x13);
        b.due("over the end", 2, b.tongue.steps(10));
        b.due("state", 2, b.tongue.look(6));
        b.due("PC", 65536, b.tongue.look(7));
    }

    /** Runs an order with x1 and x2 set: x3 behind it. */
    private static void scalar(String order, int x1, int x2, int want) {
        b.tongue.vector(4);
        b.due(order + " words", 1, b.assemble(order));
        b.tongue.setRegister(1, x1);
        b.tongue.setRegister(2, x2);
        b.due(order + " steps", 1, b.tongue.steps(1));
        b.due(order + " state", 0, b.tongue.look(6));
        b.due(order + " of " + x1 + " and " + x2, want, b.tongue.register(3));
    }

    private static void scalars() {
        scalar("lui x3,1048575", 0, 0, -4096);
        scalar("lui x3,1", 0, 0, 4096);
        scalar("auipc x3,1048575", 0, 0, -4096);
        scalar("addi x3,x1,-1", LEAST, 0, Integer.MAX_VALUE);
        scalar("slti x3,x1,-1", -2, 0, 1);
        scalar("slti x3,x1,-1", -1, 0, 0);
        scalar("sltiu x3,x1,-1", -2, 0, 1);
        scalar("sltiu x3,x1,1", -2, 0, 0);
        scalar("xori x3,x1,-1", 5, 0, -6);
        scalar("ori x3,x1,8", 5, 0, 13);
        scalar("andi x3,x1,12", 5, 0, 4);
        scalar("slli x3,x1,31", 3, 0, LEAST);
        scalar("srli x3,x1,31", -1, 0, 1);
        scalar("srai x3,x1,31", LEAST, 0, -1);
        scalar("add x3,x1,x2", Integer.MAX_VALUE, 1, LEAST);
        scalar("sub x3,x1,x2", LEAST, 1, Integer.MAX_VALUE);
        scalar("sll x3,x1,x2", 1, 33, 2);
        scalar("slt x3,x1,x2", -1, 0, 1);
        scalar("sltu x3,x1,x2", -1, 0, 0);
        scalar("xor x3,x1,x2", 6, 3, 5);
        scalar("srl x3,x1,x2", -1, 32, -1);
        scalar("srl x3,x1,x2", -1, 28, 15);
        scalar("sra x3,x1,x2", -16, 34, -4);
        scalar("or x3,x1,x2", 6, 3, 7);
        scalar("and x3,x1,x2", 6, 3, 2);
        scalar("li x3,-2147483648", 0, 0, LEAST);
        scalar("mv x3,x2", 0, 9, 9);
        b.tongue.vector(4);
        b.assemble("li x0,5\nauipc x3,1\nli x4,2147483647\nli x5,-2049");
        b.tongue.steps(6);
        b.due("x0", 0, b.tongue.register(0));
        b.due("auipc at 4", 4100, b.tongue.register(3));
        b.due("li", Integer.MAX_VALUE, b.tongue.register(4));
        b.due("li", -2049, b.tongue.register(5));
    }

    private static void products() {
        scalar("mul x3,x1,x2", 65537, 65537, 131073);
        scalar("mulh x3,x1,x2", LEAST, LEAST, 1 << 30);
        scalar("mulh x3,x1,x2", -1, 5, -1);
        scalar("mulhsu x3,x1,x2", -1, -1, -1);
        scalar("mulhsu x3,x1,x2", 5, -1, 4);
        scalar("mulhu x3,x1,x2", -1, -1, -2);
        scalar("div x3,x1,x2", -7, 2, -3);
        scalar("div x3,x1,x2", 7, 0, -1);
        scalar("div x3,x1,x2", LEAST, -1, LEAST);
        scalar("divu x3,x1,x2", -1, 2, Integer.MAX_VALUE);
        scalar("divu x3,x1,x2", 7, 0, -1);
        scalar("rem x3,x1,x2", -7, 2, -1);
        scalar("rem x3,x1,x2", -7, 0, -7);
        scalar("rem x3,x1,x2", LEAST, -1, 0);
        scalar("remu x3,x1,x2", -1, 10, 5);
        scalar("remu x3,x1,x2", -7, 0, -7);
    }

    /** Runs a text up to its end: its state. */
    private static void run(String text, int state) {
        b.fresh();
        b.due(text + " is right", true, b.assemble(text) >= 0);
        b.tongue.steps(1000);
        b.due(text + " state", state, b.tongue.look(6));
    }

    private static void register(int k, int want) {
        b.due("x" + k, want, b.tongue.register(k));
    }

    private static void memoryWords() {
        run("li x1,100\nli x2,-2023406815\nsw x2,0(x1)\nlb x3,0(x1)\nlbu x4,3(x1)\nlb x5,3(x1)\nlh x6,2(x1)\n"
                + "lhu x7,2(x1)\nlh x8,0(x1)\nlw x9,0(x1)\nsb x0,1(x1)\nsh x2,6(x1)\nebreak", 1);
        register(3, 0x21);
        register(4, 0x87);
        register(5, (byte) 0x87);
        register(6, (short) 0x8765);
        register(7, 0x8765);
        register(8, 0x4321);
        register(9, 0x87654321);
        b.due("sb", 0x87650021, b.tongue.word(100));
        b.due("sh", 0x43210000, b.tongue.word(104));
        run("li x1,65536\nlb x2,-1(x1)\nlh x2,-2(x1)\nlw x2,-4(x1)\nsb x2,-1(x1)\nsh x2,-2(x1)\nsw x2,-4(x1)\nebreak", 1);
        String[] faults = {
            "lb x2,0(x1)", "lbu x2,0(x1)", "lh x2,0(x1)", "lw x2,0(x1)", "sb x2,0(x1)", "sh x2,0(x1)", "sw x2,0(x1)",
            "lh x2,-1(x1)", "lw x2,-2(x1)", "lw x2,-3(x1)", "lw x2,-6(x1)", "lhu x2,-3(x1)", "sh x2,-5(x1)",
            "sw x2,-6(x1)", "lb x2,-1(x0)", "sw x2,-4(x0)"};
        for (String fault : faults) {
            run("li x1,65536\nli x2,5\n" + fault, 2);
            b.due(fault + " PC", 8, b.tongue.look(7));
            register(2, 5);
            b.due(fault + " memory", 0, b.tongue.word(65532));
        }
    }

    private static void jumps() {
        run("jal x1,a\nebreak\na: jalr x2,0(x1)", 1);
        register(1, 4);
        register(2, 12);
        run("li x1,9\njalr x1,4(x1)\nnop\nebreak", 1);
        register(1, 8);
        run("li x1,6\njalr x1,0(x1)\nebreak", 2);
        register(1, 6);
        b.due("PC", 4, b.tongue.look(7));
        run("li x1,12\njalr x1,1(x1)\nnop\nebreak", 1);
        run("li x1,65536\njalr x2,0(x1)", 2);
        b.due("PC beyond the memory", 65536, b.tongue.look(7));
        register(2, 8);
        run("li x1,-4\njr: jalr x0,0(x1)", 2);
        b.due("PC below the memory", -4, b.tongue.look(7));
        String[] taken = {"beq 5 5", "bne 5 6", "blt -1 0", "bge 0 -1", "bge 3 3", "bltu 0 -1", "bgeu -1 0", "bgeu 4 4"};
        String[] not = {"beq 5 6", "bne 5 5", "blt 0 -1", "blt 3 3", "bge -1 0", "bltu -1 0", "bltu 4 4", "bgeu 0 -1"};
        for (int k = 0; k < taken.length; k++) {
            branch(taken[k], 1);
            branch(not[k], 0);
        }
        // A way that is no multiple of 4: a fault only if it is taken.
        b.fresh();
        b.tongue.setWord(0, 0x00209363);
        b.tongue.setWord(4, 0x00208363);
        b.tongue.steps(5);
        b.due("a branch to 6 that is not taken, and one to 10 that is", 4, b.tongue.look(7));
        b.due("state", 2, b.tongue.look(6));
        b.fresh();
        b.tongue.setWord(0, 0x002000ef);
        b.due("jal to 2", 1, b.tongue.steps(5));
        register(1, 0);
    }

    private static void branch(String what, int want) {
        String[] p = what.split(" ");
        run("li x1," + p[1] + "\nli x2," + p[2] + "\n" + p[0] + " x1,x2,a\nebreak\na: li x3,1\nebreak", 1);
        register(3, want);
    }

    /** Sets a word at 0 and steps: a fault that changes nothing. */
    private static void fault(int word) {
        b.tongue.vector(4);
        for (int k = 1; k < 32; k++) {
            b.tongue.setRegister(k, k * 4096);
            b.tongue.setElement(k, 1, k);
        }
        b.assemble("vsetivli x0,3,e32,m1");
        b.tongue.setWord(4, word);
        b.tongue.steps(1);
        String hex = Integer.toHexString(word);
        b.due(hex + " is a step", 1, b.tongue.steps(5));
        b.due(hex + " state", 2, b.tongue.look(6));
        b.due(hex + " PC", 4, b.tongue.look(7));
        b.due(hex + " VL", 3, b.tongue.look(8));
        boolean same = true;
        for (int k = 1; k < 32; k++) {
            same &= b.tongue.register(k) == k * 4096 && b.tongue.element(k, 1) == k && b.tongue.element(k, 0) == 0;
        }
        b.due(hex + " changes nothing", true, same);
    }

    private static void wordsThatAreNone() {
        int[] words = {
            0, -1, 0x73, 0x00200073, 0x001000f3, 0x0000000f, 0x00001073, 0x00003083, 0x00006083, 0x00007083,
            0x00003023, 0x00007023, 0x00102063, 0x00103063, 0x00001067, 0x02001013, 0x40001013, 0x02005013, 0x60005013,
            0x40001033, 0x40002033, 0x04000033, 0x60005033, 0x0000001b, 0x0000003b, 0x12, 0x00000001, 0x00000007,
            0x02005007, 0x02000007, 0x02007007, 0x0210e087, 0x12006087, 0x22006087, 0x82006087, 0x0210e0a7,
            // funct6 without a use, by funct3 0, 4, 3, 2, 6; and funct3 1, 5
            0x06000057, 0x0a003057, 0x0e000057, 0x12003057, 0x22000057, 0x36000057, 0x3a000057, 0x3e000057,
            0x6a003057, 0x6e003057, 0x7a000057, 0x7e000057, 0x82000057, 0x9a000057, 0x02001057, 0x02005057,
            0x22002057, 0x26002057, 0x3a002057, 0x3e002057, 0x02006057, 0x1e006057, 0x52006057, 0x5e006057, 0x66006057,
            0xa2002057, 0xaa002057, 0xb2006057, 0xc2002057, 0xfe002057,
            // VMV.V with vs2, VMV.X.S masked, unknown steps, VID with vs2, masked VCOMPRESS, VMAND and VMV.S.X
            0x5e1000d7, 0x401020d7, 0x4210a0d7, 0x421920d7, 0x521020d7, 0x521220d7,
            0x5218a0d7, 0x5c1120d7, 0x641120d7, 0x4000e0d7, 0x4210e0d7,
            // VSETVLI of other types, and what is near VSETVL
            0x00007057, 0x00807057, 0x01807057, 0x01407057, 0x01707057, 0x11007057, 0x41007057, 0x81007057,
            0xa1007057, 0xc0007057, 0xc1407057, 0xd1007057, 0xe1007057, 0x8020f057};
        for (int word : words) {
            fault(word);
        }
    }

    private static void lengths() {
        b.fresh();
        String[] rows = {
            "vsetivli x1,3,e32,m1 => 3 3 1", "vsetivli x1,31,e32,m1 => 4 4 1", "vsetivli x1,31,e32,m8,ta,ma => 31 31 8",
            "vsetivli x1,0,e32,m2 => 0 0 2", "vsetvli x1,x0,e32,m4 => 16 16 4", "vsetvli x0,x0,e32,m8 => 0 16 8",
            "vsetvli x0,x0,e32,m2 => 0 8 2", "vsetvli x0,x0,e32,m8,ta => 0 8 8", "vsetvli x1,x2,e32,m1 => 4 4 1",
            "vsetvli x1,x3,e32,m8 => 20 20 8", "vsetvli x1,x4,e32,m8 => 32 32 8", "vsetvl x1,x5,x6 => 7 7 4",
            "vsetvl x1,x0,x6 => 16 16 4", "vsetvl x0,x0,x7 => 0 4 1", "vsetvli x0,x5,e32,m2 => 0 7 2"};
        int[] values = {0, 0, 100, 20, -1, 7, 18, 0xd0};
        for (String row : rows) {
            int arrow = row.indexOf(" => ");
            for (int k = 1; k < values.length; k++) {
                b.tongue.setRegister(k, values[k]);
            }
            b.assemble(row.substring(0, arrow));
            b.tongue.steps(1);
            b.due(row, row.substring(arrow + 4),
                    b.tongue.register(1) + " " + b.tongue.look(8) + " " + b.tongue.look(10));
        }
        for (int type : new int[] {0, 8, 24, 20, 23, 0x110, 0x80000010, -1}) {
            b.fresh();
            b.tongue.setRegister(6, type);
            b.assemble("vsetvl x1,x0,x6");
            b.tongue.steps(1);
            b.due("vsetvl of " + type, 2, b.tongue.look(6));
        }
    }

    /** Runs an order behind a length and mask: its state. */
    private static void state(String type, String order, int want) {
        b.fresh();
        b.tongue.setRegister(1, 4096);
        b.due(order + " is right", 2, b.assemble("vsetivli x0, 0, e32, " + type + "\n" + order));
        b.tongue.steps(2);
        b.due(order + " with " + type, want, b.tongue.look(6));
    }

    private static void groups() {
        String[] groups2 = {
            "vadd.vv D,v2,v4", "vadd.vv v2,D,v4", "vadd.vv v2,v4,D", "vadd.vx D,v2,x1", "vadd.vi v2,D,1", "vmv.v.v D,v2",
            "vmv.v.v v2,D", "vmv.v.x D,x1", "vmerge.vvm v2,D,v4,v0", "vmseq.vv v1,D,v2", "vmseq.vv v1,v2,D",
            "vmslt.vx v1,D,x1", "vmul.vv D,v2,v4", "vmul.vx v2,D,x1", "vmacc.vv D,v2,v4", "vmacc.vv v2,D,v4",
            "vmacc.vv v2,v4,D", "vrgather.vv v2,v4,D", "vrgather.vi v2,D,1", "vslideup.vx D,v2,x1", "vslidedown.vi v2,D,1",
            "vslide1up.vx D,v2,x1", "vslide1down.vx v2,D,x1", "vredsum.vs v1,D,v3", "viota.m D,v1", "vid.v D",
            "vcompress.vm D,v2,v1", "vcompress.vm v2,D,v1", "vle32.v D,(x1)", "vse32.v D,(x1)", "vlse32.v D,(x1),x0",
            "vsse32.v D,(x1),x0", "vluxei32.v D,(x1),v2", "vluxei32.v v2,(x1),D", "vsoxei32.v D,(x1),v2",
            "vsuxei32.v v2,(x1),D"};
        String[] singles = {
            "vmseq.vv D,v8,v16", "vmsgt.vi D,v8,1", "vredsum.vs D,v8,v16", "vredmax.vs v8,v8,D", "vmv.x.s x1,D",
            "vmv.s.x D,x1", "vcpop.m x1,D", "vfirst.m x1,D", "vmsbf.m D,v8", "vmsof.m v8,D", "vmsif.m D,v8",
            "viota.m v8,D", "vmand.mm D,v8,v16", "vmand.mm v8,D,v16", "vmand.mm v8,v16,D", "vcompress.vm v8,v16,D"};
        for (int m = 1; m <= 8; m *= 2) {
            for (String order : groups2) {
                String wide = order.replace("v4", "v16").replace("v2", "v8");
                state("m" + m, wide.replace("D", "v24"), 0);
                state("m" + m, wide.replace("D", "v27"), m == 1 ? 0 : 2);
                state("m" + m, wide.replace("D", "v26"), m <= 2 ? 0 : 2);
                state("m" + m, wide.replace("D", "v28"), m <= 4 ? 0 : 2);
            }
            for (String order : singles) {
                state("m" + m, order.replace("D", "v27"), 0);
            }
        }
        String[] masked = {
            "vadd.vv v0,v2,v4,v0.t", "vmerge.vvm v0,v2,v4,v0", "vmul.vx v0,v2,x1,v0.t", "vslideup.vi v0,v2,1,v0.t",
            "vslide1up.vx v0,v2,x1,v0.t", "viota.m v0,v2,v0.t", "vid.v v0,v0.t", "vle32.v v0,(x1),v0.t",
            "vlse32.v v0,(x1),x0,v0.t", "vluxei32.v v0,(x1),v2,v0.t", "vrgather.vv v0,v2,v4,v0.t", "vmacc.vv v0,v2,v4,v0.t"};
        for (String order : masked) {
            state("m1", order, 2);
            state("m2", order, 2);
            state("m1", order.contains("vmerge") ? "vmv.v.v v0,v4" : order.replace(",v0.t", ""), 0);
        }
        String[] fine = {
            "vmseq.vv v0,v2,v4,v0.t", "vredsum.vs v0,v2,v4,v0.t", "vmsbf.m v0,v2,v0.t", "vse32.v v0,(x1),v0.t",
            "vcpop.m x0,v0,v0.t", "vadd.vv v2,v0,v0,v0.t", "vmand.mm v0,v0,v0", "vmv.s.x v0,x1"};
        for (String order : fine) {
            state("m1", order, 0);
        }
    }

    private static String elements(int from, int many) {
        StringBuilder s = new StringBuilder();
        for (int i = 0; i < many; i++) {
            s.append(i == 0 ? "" : " ").append(b.tongue.element(from + i / 4, i % 4));
        }
        return s.toString();
    }

    /** Runs a text with words 10, 20 .. from byte 4096 on, v4 = 8 0 4 16 and the mask 1101. */
    private static void transfers(String text, int state, String v8, String memory) {
        b.fresh();
        for (int k = 0; k < 16; k++) {
            b.tongue.setWord(4096 + 4 * k, 10 * (k + 1));
        }
        int[] index = {8, 0, 4, 16};
        for (int i = 0; i < 4; i++) {
            b.tongue.setElement(4, i, index[i]);
            b.tongue.setElement(8, i, -1 - i);
        }
        b.tongue.setElement(0, 0, 13);
        b.due(text + " is right", true, b.assemble("vsetivli x0,4,e32,m1\nli x1,4096\n" + text + "\nebreak") > 0);
        b.tongue.steps(100);
        b.due(text + " state", state, b.tongue.look(6));
        b.due(text + " v8", v8, elements(8, 4));
        StringBuilder s = new StringBuilder();
        for (int k = 0; k < 5; k++) {
            s.append(k == 0 ? "" : " ").append(b.tongue.word(4096 + 4 * k));
        }
        b.due(text + " memory", memory, s.toString());
    }

    private static void vectorMemory() {
        String old = "10 20 30 40 50";
        String none = "-1 -2 -3 -4";
        transfers("vle32.v v8,(x1)", 1, "10 20 30 40", old);
        transfers("vle32.v v8,(x1),v0.t", 1, "10 -2 30 40", old);
        transfers("li x2,8\nvlse32.v v8,(x1),x2", 1, "10 30 50 70", old);
        transfers("li x2,-4\naddi x1,x1,12\nvlse32.v v8,(x1),x2", 1, "40 30 20 10", old);
        transfers("vlse32.v v8,(x1),x0", 1, "10 10 10 10", old);
        transfers("vluxei32.v v8,(x1),v4", 1, "30 10 20 50", old);
        transfers("vloxei32.v v8,(x1),v4,v0.t", 1, "30 -2 20 50", old);
        transfers("vluxei32.v v4,(x1),v4\nvmv.v.v v8,v4", 1, "30 10 20 50", old);
        transfers("vse32.v v8,(x1)", 1, none, "-1 -2 -3 -4 50");
        transfers("vse32.v v8,(x1),v0.t", 1, none, "-1 20 -3 -4 50");
        transfers("vsse32.v v8,(x1),x0", 1, none, "-4 20 30 40 50");
        transfers("vsuxei32.v v8,(x1),v4", 1, none, "-2 -3 -1 40 -4");
        transfers("vsoxei32.v v8,(x1),v4,v0.t", 1, none, "10 -3 -1 40 -4");
        transfers("addi x1,x1,2\nvle32.v v8,(x1)", 2, none, old);
        transfers("li x2,2\nvlse32.v v8,(x1),x2", 2, none, old);
        transfers("li x2,2\nvsse32.v v8,(x1),x2", 2, none, old);
        transfers("li x1,65528\nvle32.v v8,(x1)", 2, none, old);
        transfers("li x1,65528\nvse32.v v8,(x1)", 2, none, old);
        transfers("li x1,-8\nvle32.v v8,(x1)", 2, none, old);
        transfers("li x2,65536\nvsse32.v v8,(x1),x2", 2, none, old);
        transfers("li x2,65536\nvsetivli x0,1,e32,m1\nvlse32.v v8,(x1),x2", 1, "10 -2 -3 -4", old);
        transfers("li x1,65532\nvsetivli x0,1,e32,m1\nvse32.v v8,(x1)\nvle32.v v9,(x1)\nvmv.v.v v8,v9", 1, none, old);
        transfers("vsetivli x0,0,e32,m1\nli x1,-1\nvle32.v v8,(x1)\nvse32.v v8,(x1)", 1, none, old);
        // What is not active may lie anywhere, and addresses are taken modulo 2^32.
        transfers("li x2,4094\nvsetivli x0,2,e32,m1\nvlse32.v v8,(x1),x2,v0.t", 1, "10 -2 -3 -4", old);
        transfers("li x1,-4\nvmv.v.x v4,x1\nli x1,4100\nvluxei32.v v8,(x1),v4", 1, "10 10 10 10", old);
        transfers("li x2,-2147483648\nvsetivli x0,3,e32,m1\nvlse32.v v8,(x1),x2,v0.t", 1, "10 -2 10 -4", old);
    }

    private static void maskedAndBefore() {
        b.fresh();
        for (int i = 0; i < 4; i++) {
            b.tongue.setElement(1, i, i + 1);
            b.tongue.setElement(2, i, 10 * (i + 1));
            b.tongue.setElement(3, i, 3 - i);
        }
        b.assemble("vsetivli x0,4,e32,m1\nvslideup.vi v1,v1,1\nvrgather.vv v3,v2,v3\nvslide1up.vx v2,v2,x0\n"
                + "vmsne.vx v2,v2,x0\nvmv.x.s x5,v2\nebreak");
        b.tongue.steps(10);
        b.due("a slide over itself", "1 1 2 3", elements(1, 4));
        b.due("a gather over its places", "40 30 20 10", elements(3, 4));
        b.due("bits over elements, what is behind VL stays", 14, b.tongue.register(5) & 15);
        b.fresh();
        b.tongue.setElement(0, 0, 0xf5);
        b.assemble("vsetivli x0,4,e32,m1\nvmseq.vx v0,v1,x0,v0.t\nvmv.x.s x1,v0\nvmsof.m v0,v0,v0.t\nvmv.x.s x2,v0\n"
                + "vmnand.mm v0,v0,v0\nvmv.x.s x3,v0\nebreak");
        b.tongue.steps(10);
        register(1, 0xf5);
        register(2, 0xf1);
        register(3, 0xfe);
        b.fresh();
        b.tongue.setElement(0, 0, 3);
        b.assemble("vsetivli x0,4,e32,m1\nvmv.v.i v1,5\nvredsum.vs v0,v1,v0,v0.t\nvmv.x.s x1,v0\nvsetivli x0,0,e32,m1\n"
                + "vredsum.vs v0,v1,v0\nvmv.s.x v0,x0\nvmv.x.s x2,v0\nvcpop.m x3,v0\nvfirst.m x4,v0\nvid.v v1\n"
                + "vmv.x.s x5,v1\nebreak");
        b.tongue.steps(20);
        register(1, 13);
        register(2, 13);
        register(3, 0);
        register(4, -1);
        register(5, 5);
    }

    private static void otherWidths() {
        for (int e : new int[] {2, 4, 8, 16}) {
            b.fresh();
            b.tongue.vector(e);
            b.assemble("vsetvli x1,x0,e32,m8\nvid.v v8\nvmv.v.i v16,1\nvredsum.vs v1,v8,v1\nvmv.x.s x2,v1\n"
                    + "vmsgtu.vi v0,v8,3\nvcpop.m x3,v0\nvfirst.m x4,v0\nvslidedown.vi v24,v8,5\nvmv.v.i v8,7\n"
                    + "vadd.vi v8,v8,1,v0.t\nvredmax.vs v2,v24,v3\nvmv.x.s x5,v2\nviota.m v16,v0\nebreak");
            b.tongue.steps(50);
            int all = 8 * e;
            b.due(e + ": state", 1, b.tongue.look(6));
            register(1, all);
            register(2, all * (all - 1) / 2);
            register(3, all - 4);
            register(4, 4);
            register(5, all - 1);
            b.due(e + ": v8[0]", 7, b.tongue.element(8, 0));
            b.due(e + ": v15[last]", 8, b.tongue.element(15, e - 1));
            b.due(e + ": v31[last]", 0, b.tongue.element(31, e - 1));
            b.due(e + ": v23[last]", all - 5, b.tongue.element(23, e - 1));
        }
    }
}
