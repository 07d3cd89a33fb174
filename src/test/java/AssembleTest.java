import java.io.IOException;
import java.nio.file.Files;
import java.nio.file.Path;

/** Promise 5: the assembler, its words, its errors, and what it leaves as it was. */
public final class AssembleTest {
    private static final Bench b = new Bench("AssembleTest");

    public static void main(String[] args) throws IOException {
        orders();
        forms();
        wrongForms();
        labels();
        numbers();
        orderOfErrors();
        whatStays();
        largeTapes();
        b.end();
    }

    /** Rows of the table: an order, " => ", and its words. */
    private static void orders() throws IOException {
        for (String row : Files.readAllLines(Path.of("src/test/tables/orders.asm"))) {
            if (!row.startsWith(";; ")) {
                int arrow = row.indexOf(" => ");
                b.fresh();
                int count = b.assemble("back: nop\n" + row.substring(0, arrow) + "\nnop\nahead: nop\n");
                b.due(row, row.substring(arrow + 4), words(1, count - 2));
            }
        }
    }

    private static String words(int from, int to) {
        StringBuilder s = new StringBuilder();
        for (int k = from; k < to; k++) {
            s.append(k == from ? "" : " ").append(String.format("%08x", b.tongue.word(4 * k)));
        }
        return s.toString();
    }

    /** A text that is right, and its words. */
    private static void right(String text, String want) {
        b.fresh();
        int count = b.assemble(text);
        b.due(text, want, count < 0 ? "error " + (-1 - count) : words(0, count));
        b.due(text + " look(9)", 0, b.tongue.look(9));
    }

    /** A text with an error in a line. */
    private static void wrong(String text, int error, int line) {
        b.fresh();
        b.due(text, -1 - error, b.assemble(text));
        b.due(text + " look(9)", line, b.tongue.look(9));
        b.due(text + " look(0)", 0, b.tongue.look(0));
    }

    private static void forms() {
        right("", "");
        right("\n\n \t\n", "");
        right("# nothing\n   # nothing : , ( ) add", "");
        right("nop", "00000013");
        right("nop#", "00000013");
        right("\t nop \t# one\nebreak", "00000013 00100073");
        right("add x1,x2,x3", "003100b3");
        right("add \t x1 ,\tx2 , x3 \t", "003100b3");
        right("lw x1,4(x2)", "00412083");
        right("lw x1 , 4 ( x2 ) ", "00412083");
        right("sw x1,-4(x2)", "fe112e23");
        right("jalr x1,8(x2)", "008100e7");
        right("a:", "");
        right("a:nop", "00000013");
        right(" a : nop", "00000013");
        right("add: add x1, x2, x3", "003100b3");
        right("x1: j x1", "0000006f");
        right("_: j _", "0000006f");
        right("v0: nop\nj v0", "00000013 ffdff06f");
        right("vadd.vv v1,v2,v3", "022180d7");
        right("vadd.vv v1,v2,v3,v0.t", "002180d7");
        right("vadd.vv v1 , v2 , v3 , v0.t # masked", "002180d7");
        right("vle32.v v1,(x2)", "02016087");
        right("vle32.v v1 , ( x2 ) , v0.t", "00016087");
        right("vmerge.vvm v1,v2,v3,v0", "5c2180d7");
        right("vsetvli x1,x2,e32,m1", "010170d7");
        right("vsetvli x1 , x2 , e32 , m2 , ta , ma", "0d1170d7");
        right("mv x1,x2\nbeqz x3,a\nbnez x4,a\na: j a", "00010093 00018463 00021263 0000006f");
        right("li x1,007\nli x1,-0", "00700093 00000093");
        right(".word 4294967295\n.word -2147483648\n.word 0", "ffffffff 80000000 00000000");
    }

    private static void wrongForms() {
        String[] lines = {
            "add", "add x1", "add x1,x2", "add x1,x2,", "add x1,x2,x3,", "add x1,x2,x3,x4", "add x1 x2 x3",
            "add x1,x2,x3 x4", "addx1,x2,x3", "ADD x1,x2,x3", "Add x1,x2,x3", "add X1,x2,x3", "add x32,x1,x2",
            "add x01,x1,x2", "add x00,x1,x2", "add x1,x2,x100", "add v1,x2,x3", "add x1,x2,5", "add 1,x2,x3",
            "add x,x2,x3", "add x 1,x2,x3", "add x1,,x3", "a dd x1,x2,x3", "sp: add sp,x1,x2", "add ra,x1,x2",
            "nop nop", "nop x1", "nop,", "nop:nop nop", "none", "ret", "vneg.v v1,v2", "not x1,x2",
            "addi x1,x2,x3", "addi x1,x2,- 5", "addi x1,x2,+5", "addi x1,x2,0x10", "addi x1,x2,", "addi x1,x2,--5",
            "addi x1,x2,5a", "addi x1,x2,5 5", "lw x1,x2", "lw x1,(x2)", "lw x1,4(x2", "lw x1,4x2)", "lw x1,4",
            "lw x1,4((x2))", "lw x1,4(v2)", "sw x1,4", "jal a", "jal x1", "j", "j x1,a", "j 8", "j 1a", "j a b",
            "j a-b", "beq x1,x2", "beq x1,x2,8", "beq x1,a", "beqz a", "beqz x1,x2,a", "li x1", "li 5", "li x1,a",
            ".word", ".word a", ".word 1,2", ".word1", "word 1", ".half 1", "1a: nop", ": nop", ":", "a:: nop",
            "a: b: nop", "a: b :", "a b: nop", "a.b: nop", "a-: nop", "abcdefghijklmnopqrstu: nop",
            "j abcdefghijklmnopqrstu", "vadd.vv v1,v2", "vadd.vv v1,v2,x3", "vadd.vv v1,v2,v32", "vadd.vv v1,v2,v3,v0",
            "vadd.vv v1,v2,v3,v1.t", "vadd.vv v1,v2,v3 v0.t", "vadd.vv v1,v2,v3,v0 .t", "vadd.vv v1,v2,v3,",
            "vadd.vv v1,v2,v0.t", "vadd.vx v1,v2,v3", "vadd.vi v1,v2,x3", "vadd v1,v2,v3", "vsub.vi v1,v2,3",
            "vrsub.vv v1,v2,v3", "vmin.vi v1,v2,3", "vslideup.vv v1,v2,v3", "vmslt.vi v1,v2,3", "vmsgt.vv v1,v2,v3",
            "vmerge.vvm v1,v2,v3", "vmerge.vvm v1,v2,v3,v0.t", "vmerge.vvm v1,v2,v3,v1", "vmerge.vv v1,v2,v3,v0",
            "vmv.v.v v1,v2,v0.t", "vmv.v.v v1", "vmv.v.x v1,v2", "vmv.v.i v1,x2", "vmv.x.s v1,v2", "vmv.s.x x1,x2",
            "vmv.x.s x1,v2,v0.t", "vcompress.vm v1,v2,v3,v0.t", "vmand.mm v1,v2,v3,v0.t", "vid.v v1,v2", "vid.v",
            "vle32.v v1,4(x2)", "vle32.v v1,x2", "vle32.v v1,(x2),x3", "vlse32.v v1,(x2)", "vlse32.v v1,(x2),v3",
            "vluxei32.v v1,(x2),x3", "vle8.v v1,(x2)", "vle64.v v1,(x2)", "vsetvli x1,x2", "vsetvli x1,x2,e32",
            "vsetvli x1,x2,e8,m1", "vsetvli x1,x2,e32,m3", "vsetvli x1,x2,e32,mf2", "vsetvli x1,x2,e32,m1,",
            "vsetvli x1,x2,e32,m1,ta,", "vsetvli x1,x2,e32,m1,ma,ta", "vsetvli x1,x2,e32,m1,ta,ta",
            "vsetvli x1,x2,e32,m16", "vsetvli x1,x2,m1", "vsetvli x1,5,e32,m1", "vsetivli x1,x2,e32,m1",
            "vsetvl x1,x2", "vsetvl x1,x2,e32", "nop # \0", "nop # \u007f", "nop\r", "nop\u00a0", "\u0001", "# \u0080",
            ", nop", "( nop", "-", "x1"};
        for (String line : lines) {
            wrong("nop\n" + line + "\nnop", 1, 2);
        }
    }

    private static void labels() {
        right("a: j b\nb: j a", "0040006f ffdff06f");
        right("beq x1,x2,end\nnop\nend:", "00208463 00000013");
        right("a: bne x1,x2,a", "00209063");
        right("A: j a\na: j A", "0040006f ffdff06f");
        right("li x1,99999\na: j a", "000180b7 69f08093 0000006f");
        right("abcdefghijklmnopqrst: j abcdefghijklmnopqrst", "0000006f");
        right("a: # b:\njal x1,a", "000000ef");
        right("nop :\nj nop", "0000006f");
        wrong("j a", 2, 1);
        wrong("a: nop\nj b\nj c", 2, 2);
        wrong("aa: nop\nj a", 2, 2);
        wrong("a: nop\na: nop", 3, 2);
        wrong("a:\n\na:", 3, 3);
        StringBuilder s = new StringBuilder();
        for (int k = 0; k < 200; k++) {
            s.append("l").append(k).append(":\n");
        }
        right(s + "j l199", "0000006f");
        wrong(s + "l200:", 3, 201);
        wrong(s + "nop\nl0: j x\n", 3, 202);
    }

    private static void numbers() {
        String[] unfit = {
            "addi x1,x2,2048", "addi x1,x2,-2049", "sltiu x1,x2,4095", "lw x1,2048(x2)", "sw x1,-2049(x2)",
            "jalr x1,2048(x2)", "lui x1,1048576", "lui x1,-1", "auipc x1,1048576", "slli x1,x2,32", "srai x1,x2,-1",
            "li x1,2147483648", "li x1,-2147483649", "li x1,99999999999999999999999999", ".word 4294967296",
            ".word -2147483649", ".word -99999999999999999999999999", "vadd.vi v1,v2,16", "vadd.vi v1,v2,-17",
            "vsll.vi v1,v2,32", "vsll.vi v1,v2,-1", "vslideup.vi v1,v2,32", "vrgather.vi v1,v2,-1",
            "vmerge.vim v1,v2,16,v0", "vmv.v.i v1,-17", "vmsleu.vi v1,v2,16", "vsetivli x1,32,e32,m1",
            "vsetivli x1,-1,e32,m1"};
        for (String line : unfit) {
            wrong("nop\n\n" + line, 4, 3);
        }
        wrong("addi x1,x2,4096 x3", 1, 1);
        right("addi x1,x2,2047\naddi x1,x2,-2048", "7ff10093 80010093");
    }

    private static void orderOfErrors() {
        wrong("j nowhere\na:\na:", 3, 3);
        wrong("addi x1,x2,5000\nnone", 4, 1);
        wrong("none\naddi x1,x2,5000", 1, 1);
        wrong("a:\na: none", 1, 2);
        wrong("a:\na: addi x1,x2,5000", 3, 2);
        wrong("j nowhere\naddi x1,x2,5000", 4, 2);
        wrong("j nowhere\nnone", 1, 2);
        wrong("a: j a\nbeq x1,x2,nowhere\nj other", 2, 2);
    }

    private static void whatStays() {
        b.fresh();
        b.tongue.setRegister(5, 7);
        b.tongue.setWord(8, 99);
        b.due("a program", 3, b.assemble("vsetivli x1,3,e32,m2\nnop\nebreak"));
        b.tongue.steps(10);
        b.due("its state", 1, b.tongue.look(6));
        b.due("an error", -2, b.assemble("nop\nnone"));
        b.due("state behind an error", 1, b.tongue.look(6));
        b.due("PC behind an error", 8, b.tongue.look(7));
        b.due("look(9)", 2, b.tongue.look(9));
        b.due("word 0 behind an error", 0xc111f0d7, b.tongue.word(0));
        b.due("another program", 1, b.assemble("li x2,4"));
        b.due("state", 0, b.tongue.look(6));
        b.due("PC", 0, b.tongue.look(7));
        b.due("VL stays", 3, b.tongue.look(8));
        b.due("LMUL stays", 2, b.tongue.look(10));
        b.due("x5 stays", 7, b.tongue.register(5));
        b.due("word 4 stays", 0x13, b.tongue.word(4));
        b.due("look(9)", 0, b.tongue.look(9));
        b.tongue.jump(400);
        b.due("an empty tape", 0, b.tongue.assemble());
        b.due("PC behind it", 0, b.tongue.look(7));
        b.due("word 0 stays", 0x00400113, b.tongue.word(0));
    }

    private static void largeTapes() {
        b.fresh();
        b.due("1024 words", 1024, b.assemble("nop\n".repeat(1023) + "nop"));
        b.due("the last one", 0x13, b.tongue.word(4092));
        b.fresh();
        b.due("a way far ahead", 408, b.assemble("beqz x1,a\n" + "nop\n".repeat(407) + "a:"));
        b.due("its word", 0x66008063, b.tongue.word(0));
        b.fresh();
        b.due("ways far back", 1022, b.assemble("a:nop\n" + "j a\n".repeat(1021)));
        b.due("the last one", 0x80cff06f, b.tongue.word(4 * 1021));
    }
}
