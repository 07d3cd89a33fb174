/**
 * Promises 4 and 6: vector words at the bounds of VL, of a group and of the mask, for each E and LMUL. A plain
 * model here tells what is due: arrays of LMUL times E elements, before (old), of vs2 (a) and of vs1 (c).
 */
public final class VectorEdgesTest {
    private static final Bench b = new Bench("VectorEdgesTest");
    private static final int TIMES_OLD = 1000;
    private static final int TIMES_A = 7;
    private static final int[] SCALARS = {0, 1, 2, 3, 30, 31, 32, 127, 128, 129, Integer.MAX_VALUE, Integer.MIN_VALUE, -1, -2};

    private static int wide;
    private static int lmul;
    private static int all;
    private static int vl;
    private static boolean masked;
    private static final int[] mask = {0xb5a4c3d2, 0x80000001, 0x7ffffffe, 0x5ca1ab1e};

    public static void main(String[] args) {
        for (int e = 2; e <= 16; e *= 2) {
            for (int m = 1; m <= 8; m *= 2) {
                wide = e;
                lmul = m;
                all = e * m;
                lengths();
                for (int length : new int[] {0, 1, all / 2, all - 1, all}) {
                    vl = length;
                    for (int k = 0; k < 2; k++) {
                        masked = k == 1;
                        slides();
                        gathers();
                        steps();
                        bits();
                        sums();
                    }
                    wholes();
                }
                for (int length : new int[] {0, 1, all - 1, all}) {
                    vl = length;
                    transfers();
                }
            }
        }
        b.end();
    }

    private static boolean bit(int[] words, int i) {
        return (words[i / 32] >>> i % 32 & 1) == 1;
    }

    /** The mask's bit, as far as v0 has it. */
    private static boolean active(int i) {
        return !masked || bit(mask, i);
    }

    private static int old(int i) {
        return i * TIMES_OLD;
    }

    private static int a(int i) {
        return i < all ? 5 + i * TIMES_A : 0;
    }

    /** "VL is the least of the length asked and LMUL times E; with rs1 x0: all, if rd is not x0, else VL, cut". */
    private static void lengths() {
        int[] asked = {0, 1, all - 1, all, all + 1, Integer.MAX_VALUE, Integer.MIN_VALUE, -1};
        for (int n : asked) {
            int want = n < 0 || n > all ? all : n;
            length("vsetvli x9,x5,e32,m" + lmul, n, 3, want, want);
            length("vsetvl x9,x5,x6", n, 3, want, want);
            length("vsetvli x0,x5,e32,m" + lmul, n, 3, want, 77);
        }
        for (int n = 0; n < 32; n++) {
            length("vsetivli x9," + n + ",e32,m" + lmul, 99, 3, Math.min(n, all), Math.min(n, all));
        }
        for (int had : new int[] {0, 1, all - 1, all, all + 1, 8 * wide}) {
            int most = Math.min(had, 8 * wide);
            length("vsetvli x9,x0,e32,m" + lmul, 0, had, all, all);
            length("vsetvl x9,x0,x6", 0, had, all, all);
            length("vsetvli x0,x0,e32,m" + lmul, 0, had, Math.min(most, all), 77);
            length("vsetvl x0,x0,x6", 0, had, Math.min(most, all), 77);
            length("vsetivli x0,0,e32,m" + lmul, 0, had, 0, 77);
        }
    }

    private static void length(String order, int asked, int had, int want, int rd) {
        b.fresh();
        b.tongue.vector(wide);
        b.tongue.setRegister(4, had);
        b.tongue.setRegister(5, asked);
        b.tongue.setRegister(6, 16 + Integer.numberOfTrailingZeros(lmul));
        b.tongue.setRegister(9, 77);
        b.assemble("vsetvli x0,x4,e32,m8\n" + order);
        b.tongue.steps(2);
        String when = order + " of " + asked + " and VL " + had + " with E " + wide;
        b.due(when, "0 8 " + want + " " + lmul + " " + rd + " 0", b.tongue.look(6) + " " + b.tongue.look(7) + " "
                + b.tongue.look(8) + " " + b.tongue.look(10) + " " + b.tongue.register(9) + " " + b.tongue.register(0));
    }

    /** Runs an order with v24 old, v8 a, v0 the mask, v1 the mask too, x5 a scalar. */
    private static void run(String order, int scalar) {
        b.fresh();
        b.tongue.vector(wide);
        for (int k = 0; k < Math.min(wide, 4); k++) {
            b.tongue.setElement(0, k, mask[k]);
            b.tongue.setElement(1, k, mask[k]);
            b.tongue.setElement(2, k, ~mask[k]);
        }
        b.tongue.setRegister(2, vl);
        b.tongue.setRegister(5, scalar);
        String text = "vsetvli x1,x0,e32,m" + lmul + "\nvid.v v24\nli x3," + TIMES_OLD + "\nvmul.vx v24,v24,x3\nvid.v v8\nli x3," + TIMES_A
                + "\nvmul.vx v8,v8,x3\nvadd.vi v8,v8,5\nvsetvli x0,x2,e32,m" + lmul + "\n" + order + (masked ? ",v0.t" : "")
                + "\nebreak";
        b.due(order, 11, b.assemble(text));
        b.due(order + " steps", 11, b.tongue.steps(20));
    }

    private static String when(String order) {
        return order + (masked ? ",v0.t" : "") + " with E " + wide + ", LMUL " + lmul + ", VL " + vl;
    }

    /** That v24's group has the elements. */
    private static void group(String order, int[] want) {
        StringBuilder due = new StringBuilder();
        StringBuilder got = new StringBuilder();
        for (int i = 0; i < all; i++) {
            due.append(want[i]).append(' ');
            got.append(b.tongue.element(24 + i / wide, i % wide)).append(' ');
        }
        b.due(when(order), due.toString(), got.toString());
    }

    private static int[] olds() {
        int[] d = new int[all];
        for (int i = 0; i < all; i++) {
            d[i] = old(i);
        }
        return d;
    }

    private static void slides() {
        for (int n : SCALARS) {
            long far = n & 0xffffffffL;
            boolean told = n >= 0 && n < 32;
            int[] up = olds();
            int[] down = olds();
            for (int i = 0; i < vl; i++) {
                if (active(i) && i >= far) {
                    up[i] = a((int) (i - far));
                }
                if (active(i)) {
                    down[i] = i + far < all ? a((int) (i + far)) : 0;
                }
            }
            run("vslideup.vx v24,v8,x5", n);
            group("vslideup.vx by " + n, up);
            run("vslidedown.vx v24,v8,x5", n);
            group("vslidedown.vx by " + n, down);
            if (told) {
                run("vslideup.vi v24,v8," + n, 0);
                group("vslideup.vi by " + n, up);
                run("vslidedown.vi v24,v8," + n, 0);
                group("vslidedown.vi by " + n, down);
            }
        }
        int[] up = olds();
        int[] down = olds();
        for (int i = 0; i < vl; i++) {
            up[i] = !active(i) ? up[i] : i == 0 ? -77 : a(i - 1);
            down[i] = !active(i) ? down[i] : i == vl - 1 ? -77 : a(i + 1);
        }
        run("vslide1up.vx v24,v8,x5", -77);
        group("vslide1up.vx", up);
        run("vslide1down.vx v24,v8,x5", -77);
        group("vslide1down.vx", down);
    }

    /** "vd[i] = vs2[vs1[i]], 0 beyond all LMUL * E; the number not signed". */
    private static void gathers() {
        for (int n : new int[] {0, 1, 15, 16, 31, 32, all - 1, all, all + 1, -1, Integer.MIN_VALUE}) {
            int[] d = olds();
            for (int i = 0; i < vl; i++) {
                d[i] = !active(i) ? d[i] : n >= 0 && n < all ? a(n) : 0;
            }
            run("vrgather.vx v24,v8,x5", n);
            group("vrgather.vx of " + n, d);
            if (n >= 0 && n < 32) {
                run("vrgather.vi v24,v8," + n, 0);
                group("vrgather.vi of " + n, d);
            }
        }
        int[] d = olds();
        for (int i = 0; i < vl; i++) {
            d[i] = !active(i) ? d[i] : a(i) < all ? a(a(i)) : 0;
        }
        run("vrgather.vv v24,v8,v8", 0);
        group("vrgather.vv", d);
    }

    /** "VIOTA: how many 1s of vs2, active, are before", "VID: i". */
    private static void steps() {
        int[] count = olds();
        int[] id = olds();
        int ones = 0;
        for (int i = 0; i < vl; i++) {
            if (active(i)) {
                count[i] = ones;
                id[i] = i;
                ones += bit(mask, i) ? 0 : 1;
            }
        }
        run("viota.m v24,v2", 0);
        group("viota.m", count);
        run("vid.v v24", 0);
        group("vid.v", id);
        int set = 0;
        int first = -1;
        for (int i = vl - 1; i >= 0; i--) {
            if (active(i) && !bit(mask, i)) {
                first = i;
                set++;
            }
        }
        run("vcpop.m x7,v2", 0);
        b.due(when("vcpop.m"), set, b.tongue.register(7));
        run("vfirst.m x7,v2", 0);
        b.due(when("vfirst.m"), first, b.tongue.register(7));
        run("vcpop.m x0,v2", 0);
        b.due(when("vcpop.m x0"), 0, b.tongue.register(0));
    }

    /** That v1 has bits up to VL where they are active, and what it had elsewhere. */
    private static void oneRegister(String order, boolean[] on, int had) {
        for (int k = 0; k < Math.min(wide, 4); k++) {
            int want = had == 0 ? mask[k] : 0;
            for (int i = 32 * k; i < 32 * k + 32 && i < vl; i++) {
                if (active(i)) {
                    want = on[i] ? want | 1 << i % 32 : want & ~(1 << i % 32);
                }
            }
            b.due(when(order) + ", element " + k, want, b.tongue.element(had == 0 ? 1 : 3, k));
        }
    }

    private static void bits() {
        int first = -1;
        for (int i = vl - 1; i >= 0; i--) {
            first = active(i) && !bit(mask, i) ? i : first;
        }
        boolean[] before = new boolean[vl];
        boolean[] with = new boolean[vl];
        boolean[] only = new boolean[vl];
        boolean[] below = new boolean[vl];
        for (int i = 0; i < vl; i++) {
            before[i] = first < 0 || i < first;
            with[i] = first < 0 || i <= first;
            only[i] = i == first;
            below[i] = a(i) < 40;
        }
        run("vmsbf.m v1,v2", 0);
        oneRegister("vmsbf.m", before, 0);
        run("vmsif.m v1,v2", 0);
        oneRegister("vmsif.m", with, 0);
        run("vmsof.m v1,v2", 0);
        oneRegister("vmsof.m", only, 0);
        run("vmsof.m v3,v2", 0);
        oneRegister("vmsof.m v3", only, 3);
        run("vmsltu.vx v1,v8,x5", 40);
        oneRegister("vmsltu.vx", below, 0);
    }

    /** "vd[0] = vs1[0] with all active vs2[i]; nothing if VL is 0". */
    private static void sums() {
        int sum = mask[0];
        int least = mask[0];
        for (int i = 0; i < vl; i++) {
            sum += active(i) ? a(i) : 0;
            least = active(i) ? Math.min(least, a(i)) : least;
        }
        run("vredsum.vs v24,v8,v1", 0);
        b.due(when("vredsum.vs"), vl == 0 ? old(0) : sum, b.tongue.element(24, 0));
        b.due(when("vredsum.vs, what is behind"), old(1), b.tongue.element(24, 1));
        run("vredmin.vs v3,v8,v1", 0);
        b.due(when("vredmin.vs"), vl == 0 ? 0 : least, b.tongue.element(3, 0));
        run("vredsum.vs v0,v8,v0", 0);
        b.due(when("vredsum.vs v0"), vl == 0 ? mask[0] : sum, b.tongue.element(0, 0));
    }

    /** Words that have no mask. */
    private static void wholes() {
        masked = false;
        int[] compressed = olds();
        int[] merged = olds();
        int[] moved = olds();
        int count = 0;
        boolean[] nand = new boolean[vl];
        for (int i = 0; i < vl; i++) {
            if (bit(mask, i)) {
                compressed[count] = a(i);
                count++;
            }
            merged[i] = bit(mask, i) ? -9 : a(i);
            moved[i] = a(i);
            nand[i] = true;
        }
        run("vcompress.vm v24,v8,v1", 0);
        group("vcompress.vm", compressed);
        run("vmerge.vxm v24,v8,x5,v0", -9);
        group("vmerge.vxm", merged);
        run("vmerge.vim v24,v8,-9,v0", 0);
        group("vmerge.vim", merged);
        run("vmv.v.v v24,v8", 0);
        group("vmv.v.v", moved);
        run("vmnand.mm v3,v1,v2", 0);
        oneRegister("vmnand.mm", nand, 3);
        run("vmv.x.s x7,v1", 0);
        b.due(when("vmv.x.s"), mask[0], b.tongue.register(7));
        run("vmv.s.x v24,x5", -9);
        int[] first = olds();
        first[0] = vl == 0 ? first[0] : -9;
        group("vmv.s.x", first);
        run("vmv.v.i v24,-16", 0);
        int[] told = olds();
        for (int i = 0; i < vl; i++) {
            told[i] = -16;
        }
        group("vmv.v.i", told);
    }

    /**
     * "an address that is not within the memory (all bytes; of vectors those of active elements), .. or a
     * vector's address not a multiple of 4", "Each address modulo 2^32"; "of a load or store no element".
     */
    private static void transfers() {
        int[] starts = {0, 1, 2, 3, 4, 65536 - 4 * all, 65537 - 4 * all, 65540 - 4 * all, 65532, 65533, 65534, 65536, -4, -3, Integer.MIN_VALUE,
            Integer.MAX_VALUE};
        for (int start : starts) {
            for (int k = 0; k < 2; k++) {
                masked = k == 1;
                transfer("vle32.v v24,(x5)", start, 4, false);
                transfer("vlse32.v v24,(x5),x4", start, 0, false);
                transfer("vlse32.v v24,(x5),x4", start, 4, false);
                transfer("vlse32.v v24,(x5),x4", start, -4, false);
                transfer("vlse32.v v24,(x5),x4", start, 2, false);
                transfer("vluxei32.v v24,(x5),v8", start, TIMES_A, false);
                transfer("vse32.v v24,(x5)", start, 4, true);
                transfer("vsse32.v v24,(x5),x4", start, 1 << 30, true);
                transfer("vsse32.v v24,(x5),x4", start, 1, true);
                transfer("vsoxei32.v v24,(x5),v8", start, TIMES_A, true);
            }
        }
        masked = false;
    }

    /** One word with x5 the start and x4 the stride: a fault that changes nothing, or all active elements. */
    private static void transfer(String order, int start, int stride, boolean stores) {
        boolean indexed = order.contains("ei32");
        boolean faults = false;
        int last = -1;
        for (int i = 0; i < vl; i++) {
            int at = start + (indexed ? a(i) : stride * i);
            if (active(i)) {
                faults |= at < 0 || at > 65532 || at % 4 != 0;
                last = i;
            }
        }
        b.fresh();
        b.tongue.vector(wide);
        for (int k = 0; k < Math.min(wide, 4); k++) {
            b.tongue.setElement(0, k, mask[k]);
        }
        b.tongue.setRegister(2, vl);
        b.tongue.setRegister(4, stride);
        b.tongue.setRegister(5, start);
        b.tongue.setRegister(6, 4096);
        String text = "vsetvli x1,x0,e32,m" + lmul + "\nvid.v v24\nli x3," + TIMES_OLD + "\nvmul.vx v24,v24,x3\nvid.v v8\nli x3," + TIMES_A
                + "\nvmul.vx v8,v8,x3\nvadd.vi v8,v8,5\nvsetvli x0,x2,e32,m" + lmul + "\n" + order + (masked ? ",v0.t" : "");
        b.assemble(text);
        b.tongue.steps(9);
        int lastAt = last < 0 || faults ? 0 : start + (indexed ? a(last) : stride * last);
        int there = b.tongue.word(lastAt);
        b.due(order + " is a step", 1, b.tongue.steps(1));
        b.due(when(order) + " from " + start + " by " + stride, faults ? "2 36" : "0 40", b.tongue.look(6) + " " + b.tongue.look(7));
        if (last >= 0) {
            int element = b.tongue.element(24 + last / wide, last % wide);
            b.due(when(order) + ", element", stores || faults ? old(last) : there, element);
            b.due(when(order) + ", memory", stores && !faults ? old(last) : there, b.tongue.word(lastAt));
        }
    }
}
