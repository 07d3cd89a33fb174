/**
 * Promise 6: "Results are made of what was there before the word (vd may be any of the others, ..)". Each order is
 * run with a vd of its own that holds the same, and with vd the register itself: both make the same.
 */
public final class OverlapTest {
    private static final Bench b = new Bench("OverlapTest");
    /** Orders of elements: D is vd, A is vs2, C is vs1. */
    private static final String[] ORDERS = {
        "vadd.vv D,A,C", "vsub.vv D,A,C", "vrsub.vi D,A,3", "vminu.vv D,A,C", "vmax.vv D,A,C", "vxor.vv D,A,C", "vrgather.vv D,A,C",
        "vrgather.vx D,A,x5", "vslideup.vx D,A,x5", "vslideup.vi D,A,1", "vslidedown.vx D,A,x5", "vslidedown.vi D,A,1",
        "vslide1up.vx D,A,x5", "vslide1down.vx D,A,x5", "vsll.vv D,A,C", "vmul.vv D,A,C", "vmulh.vv D,A,C", "vdiv.vv D,A,C",
        "vrem.vv D,A,C", "vmadd.vv D,C,A", "vnmsub.vv D,C,A", "vmacc.vv D,C,A", "vnmsac.vv D,C,A", "vmacc.vx D,x5,A"};
    private static final String[] BITS = {
        "vmsbf.m D,A", "vmsif.m D,A", "vmsof.m D,A"};
    private static final String[] PAIRS = {
        "vmandn.mm D,A,C", "vmand.mm D,A,C", "vmor.mm D,A,C", "vmxor.mm D,A,C", "vmorn.mm D,A,C", "vmnand.mm D,A,C", "vmnor.mm D,A,C",
        "vmxnor.mm D,A,C"};

    /** What copies one register is told with LMUL 1. */
    private static final String ONE = "vsetvli x1,x0,e32,m1\n";

    public static void main(String[] args) {
        for (int m = 1; m <= 8; m *= 2) {
            for (int vl : new int[] {1, 4 * m - 1, 4 * m}) {
                for (int masked = 0; masked < 2; masked++) {
                    elements(m, vl, masked == 1 ? ",v0.t" : "");
                }
                bits(m, vl);
                others(m, vl);
            }
        }
        b.end();
    }

    /** Runs orders behind a set-up: v8 and v16 of small numbers, v1 and v2 of bits; then the registers. */
    private static String run(int m, int vl, String orders, int from, int many) {
        b.fresh();
        b.tongue.setElement(0, 0, 0xb6d5);
        b.tongue.setElement(1, 0, 0x6a34);
        b.tongue.setElement(2, 0, 0x93c6);
        b.tongue.setRegister(5, 2);
        b.tongue.setRegister(2, vl);
        b.tongue.setRegister(6, 3);
        b.tongue.setRegister(7, 7);
        b.tongue.setRegister(8, 4096);
        for (int k = 0; k < 8; k++) {
            b.tongue.setWord(4096 + 4 * k, 1000 + k);
        }
        String setUp = "vsetvli x1,x0,e32,m" + m + "\nvid.v v8\nvmul.vx v8,v8,x6\nvadd.vi v8,v8,-4\nvid.v v16\nvmul.vx v16,v16,x7\n"
                + "vand.vi v16,v16,7\n";
        b.due(orders + " is right", true, b.assemble(setUp + orders + "\nebreak") > 0);
        b.tongue.steps(100);
        b.due(orders + " state", 1, b.tongue.look(6));
        StringBuilder s = new StringBuilder();
        for (int i = 0; i < many; i++) {
            s.append(b.tongue.element(from + i / 4, i % 4)).append(' ');
        }
        return s.toString();
    }

    private static void same(int m, int vl, String order, int group, String... registers) {
        String length = "vsetvli x0,x2,e32,m" + m + "\n";
        for (String register : registers) {
            int k = Integer.parseInt(register.substring(1));
            boolean first = register.equals(registers[0]);
            String copy = (group == 1 ? ONE : "") + "vmv.v.v v24," + register + "\n";
            String plain = order.replace("A", registers[0]).replace("C", registers[registers.length - 1]);
            String apart = run(m, vl, copy + length + plain.replace("D", "v24"), 24, group);
            String within = run(m, vl, length + plain.replace("D", register), k, group);
            b.due(order + " with vd " + register + (first ? " (vs2)" : " (vs1)") + ", m" + m + ", VL " + vl, apart, within);
        }
    }

    private static void elements(int m, int vl, String mask) {
        for (String order : ORDERS) {
            same(m, vl, order + mask, 4 * m, "v8", "v16");
            same(m, vl, order + mask, 4 * m, "v8");
        }
    }

    private static void bits(int m, int vl) {
        for (String order : BITS) {
            same(m, vl, order, 1, "v1");
            same(m, vl, order + ",v0.t", 1, "v1");
            same(m, vl, order + ",v0.t", 1, "v0");
        }
        for (String order : PAIRS) {
            same(m, vl, order, 1, "v1", "v2");
            same(m, vl, order, 1, "v1", "v0");
            same(m, vl, order, 1, "v2");
        }
    }

    private static void others(int m, int vl) {
        String length = "vsetvli x0,x2,e32,m" + m + "\n";
        // Bits over the elements that are compared, or over the mask.
        String apart = run(m, vl, ONE + "vmv.v.v v3,v8\n" + length + "vmslt.vv v3,v8,v16", 3, 4);
        b.due("vmslt.vv over vs2", apart, run(m, vl, length + "vmslt.vv v8,v8,v16", 8, 4));
        apart = run(m, vl, ONE + "vmv.v.v v3,v0\n" + length + "vmslt.vv v3,v8,v16,v0.t", 3, 1);
        b.due("vmslt.vv over the mask", apart, run(m, vl, length + "vmslt.vv v0,v8,v16,v0.t", 0, 1));
        // Elements over the bits that they are made of.
        apart = run(m, vl, "vmv.v.v v24,v8\n" + length + "viota.m v24,v8", 24, 4 * m);
        b.due("viota.m over vs2", apart, run(m, vl, length + "viota.m v8,v8", 8, 4 * m));
        apart = run(m, vl, "vmv.v.v v24,v8\n" + length + "vcompress.vm v24,v8,v1", 24, 4 * m);
        b.due("vcompress.vm over vs2", apart, run(m, vl, length + "vcompress.vm v8,v8,v1", 8, 4 * m));
        apart = run(m, vl, "vmv.v.v v24,v16\n" + length + "vcompress.vm v24,v8,v16", 24, 4 * m);
        b.due("vcompress.vm over its bits", apart, run(m, vl, length + "vcompress.vm v16,v8,v16", 16, 4 * m));
        // A sum over its own elements, its start, or its mask.
        apart = run(m, vl, length + "vredsum.vs v3,v8,v16,v0.t", 3, 1);
        b.due("vredsum.vs over vs2", apart, run(m, vl, length + "vredsum.vs v8,v8,v16,v0.t", 8, 1));
        b.due("vredsum.vs over vs1", apart, run(m, vl, length + "vredsum.vs v16,v8,v16,v0.t", 16, 1));
        b.due("vredsum.vs over the mask", apart, run(m, vl, length + "vredsum.vs v0,v8,v16,v0.t", 0, 1));
        apart = run(m, vl, "vmv.v.v v24,v8\n" + length + "vmerge.vvm v24,v8,v16,v0", 24, 4 * m);
        b.due("vmerge.vvm over vs2", apart, run(m, vl, length + "vmerge.vvm v8,v8,v16,v0", 8, 4 * m));
        String scaled = "vsll.vi v16,v16,2\n";
        apart = run(m, vl, scaled + "vmv.v.v v24,v16\n" + length + "vluxei32.v v24,(x8),v16", 24, 4 * m);
        b.due("vluxei32.v over its places", apart, run(m, vl, scaled + length + "vluxei32.v v16,(x8),v16", 16, 4 * m));
    }
}
