/** Promise 5: the assembler's bounds, sentence by sentence. */
public final class AssembleEdgesTest {
    private static final Bench b = new Bench("AssembleEdgesTest");

    public static void main(String[] args) {
        bytes();
        blanks();
        registers();
        numbers();
        loadNumbers();
        labels();
        ways();
        orderOfErrors();
        refusedChangesNothing();
        shorterTexts();
        jumpForms();
        b.end();
    }

    /** What a new object answers for a text: its words' number, or its error and line. */
    private static String answer(String text) {
        b.fresh();
        int count = b.assemble(text);
        b.due("the tape behind " + text, 0, b.tongue.look(0));
        return count >= 0 ? "words " + count : "error " + (-1 - count) + " line " + b.tongue.look(9);
    }

    private static void text(String text, String want) {
        b.due(text, want, answer(text));
    }

    /** "lines (up to 10) of bytes 9, 32 .. 126 (behind a #, too; another one: error 1)". */
    private static void bytes() {
        for (int c = 0; c < 256; c++) {
            boolean counts = c == 9 || c >= 32 && c <= 126;
            String one = "" + (char) c;
            b.due("byte " + c + " behind #", counts || c == 10 ? "words 1" : "error 1 line 2", answer("\nnop # a" + one + "\n"));
            b.due("byte " + c + " behind # at the end", counts || c == 10 ? "words 0" : "error 1 line 1", answer("#" + one));
            boolean blank = c == 9 || c == 32;
            boolean fine = blank || c == 10 || c == '#';
            b.due("byte " + c + " in a line", fine ? "words 1" : c == ':' ? "words 0" : "error 1 line 1", answer("nop" + one));
            b.due("byte " + c + " alone", fine ? "words 1" : "error 1 line 1", answer(one + "\nnop"));
            boolean letter = c >= 'a' && c <= 'z' || c >= 'A' && c <= 'Z' || c >= '0' && c <= '9' || c == '_';
            b.due("byte " + c + " in a label", letter ? "words 1" : "error 1 line 1", answer("a" + one + "b: nop"));
        }
        text("nop\n#\nnop#nop\n#nop\nnop", "words 3");
    }

    /** "blanks stand behind an order, ahead of : and around , ( ) alone". */
    private static void blanks() {
        String[] lines = {"lab:add x11,x22,x31", "lw x11,-44(x22)", "sw x11,44(x22)", "vadd.vv v11,v12,v13,v0.t", "vle32.v v11,(x12),v0.t",
            "vlse32.v v11,(x12),x13", "vsetvli x11,x12,e32,m2,ta,mu", "li x11,-4444", ".word -55", "jal x11,lab", "lab:",
            "vmerge.vvm v11,v12,v13,v0", "nop", "lab:beqz x11,lab"};
        for (String line : lines) {
            String whole = line + "\nlab" + (line.startsWith("lab") ? "2:" : ":");
            b.due(line, true, answer(whole).startsWith("words"));
            int order = line.indexOf(' ');
            for (int k = 0; k <= line.length(); k++) {
                boolean end = k == 0 || k == line.length() || k == order || k == order + 1;
                boolean mark = k > 0 && ":,()".indexOf(line.charAt(k - 1)) >= 0
                        || k < line.length() && ":,()".indexOf(line.charAt(k)) >= 0;
                for (String blank : new String[] {" ", "\t", " \t  \t"}) {
                    String with = line.substring(0, k) + blank + line.substring(k) + whole.substring(line.length());
                    b.due("blank at " + k + " of " + line, end || mark, answer(with).startsWith("words"));
                }
            }
        }
        text("addx1,x2,x3", "error 1 line 1");
        text("add\tx1,x2,x3", "words 1");
    }

    private static void registers() {
        for (int k = 0; k < 32; k++) {
            b.due("x" + k, "words 3", answer("add x" + k + ",x0,x0\nadd x0,x" + k + ",x0\nadd x0,x0,x" + k));
            b.due("its bits", 0x33 | k << 7, b.tongue.word(0));
            b.due("its bits", 0x33 | k << 15, b.tongue.word(4));
            b.due("its bits", 0x33 | k << 20, b.tongue.word(8));
            b.due("v" + k, "words 3", answer("vadd.vv v" + k + ",v0,v0\nvadd.vv v0,v" + k + ",v0\nvadd.vv v0,v0,v" + k));
            b.due("its bits", 0x02000057 | k << 7, b.tongue.word(0));
            b.due("its bits", 0x02000057 | k << 20, b.tongue.word(4));
            b.due("its bits", 0x02000057 | k << 15, b.tongue.word(8));
        }
        for (String none : new String[] {"32", "33", "39", "40", "99", "100", "310", "-1", "", "a", "00", "01"}) {
            text("add x" + none + ",x0,x0", "error 1 line 1");
            text("add x0,x0,x" + none, "error 1 line 1");
            text("vadd.vv v" + none + ",v0,v0", "error 1 line 1");
        }
    }

    /** Orders with a number: the least and the greatest that fit, and the next ones, error 4. */
    private static void numbers() {
        String[] rows = {
            "addi x1,x2,N -2048 2047", "slti x1,x2,N -2048 2047", "sltiu x1,x2,N -2048 2047", "xori x1,x2,N -2048 2047",
            "ori x1,x2,N -2048 2047", "andi x1,x2,N -2048 2047", "slli x1,x2,N 0 31", "srli x1,x2,N 0 31", "srai x1,x2,N 0 31",
            "lb x1,N(x2) -2048 2047", "lh x1,N(x2) -2048 2047", "lw x1,N(x2) -2048 2047", "lbu x1,N(x2) -2048 2047",
            "lhu x1,N(x2) -2048 2047", "sb x1,N(x2) -2048 2047", "sh x1,N(x2) -2048 2047", "sw x1,N(x2) -2048 2047",
            "jalr x1,N(x2) -2048 2047", "jalr x1,x2,N -2048 2047", "lui x1,N 0 1048575", "auipc x1,N 0 1048575",
            "li x1,N -2147483648 2147483647", ".word N -2147483648 4294967295", "vsetivli x1,N,e32,m1 0 31",
            "vadd.vi v1,v2,N -16 15", "vrsub.vi v1,v2,N -16 15", "vand.vi v1,v2,N -16 15", "vor.vi v1,v2,N -16 15",
            "vxor.vi v1,v2,N -16 15", "vmseq.vi v1,v2,N -16 15", "vmsne.vi v1,v2,N -16 15", "vmsleu.vi v1,v2,N -16 15",
            "vmsle.vi v1,v2,N -16 15", "vmsgtu.vi v1,v2,N -16 15", "vmsgt.vi v1,v2,N -16 15", "vmerge.vim v1,v2,N,v0 -16 15",
            "vmv.v.i v1,N -16 15", "vsll.vi v1,v2,N 0 31", "vsrl.vi v1,v2,N 0 31", "vsra.vi v1,v2,N 0 31",
            "vrgather.vi v1,v2,N 0 31", "vslideup.vi v1,v2,N 0 31", "vslidedown.vi v1,v2,N 0 31"};
        for (String row : rows) {
            String[] p = row.split(" ");
            String order = p[0] + " " + p[1];
            long least = Long.parseLong(p[2]);
            long most = Long.parseLong(p[3]);
            for (long n : new long[] {least, least + 1, 0, 1, most - 1, most}) {
                b.due(order + " of " + n, true, answer(order.replace("N", "" + n)).startsWith("words"));
                b.due(order + " of 000" + n, n >= 0, answer(order.replace("N", "000" + n)).startsWith("words"));
            }
            for (String n : new String[] {"" + (least - 1), "" + (most + 1), "-4294967296", "4294967296", "18446744073709551616",
                "-18446744073709551616", "1" + "0".repeat(60)}) {
                b.due(order + " of " + n, "error 4 line 2", answer("nop\n" + order.replace("N", n)));
            }
            for (String n : new String[] {"", "-", "+1", "0x1", "1-", "x", "1a", "--1"}) {
                b.due(order + " of '" + n + "'", "error 1 line 2", answer("nop\n" + order.replace("N", n)));
            }
        }
    }

    /** "li: ADDI from x0; beyond 12 bits LUI of (n + 2048) / 4096, downwards, and, if not 0, ADDI of the rest". */
    private static void loadNumbers() {
        int[] numbers = {0, 1, -1, 2046, 2047, 2048, 2049, -2047, -2048, -2049, 4095, 4096, 4097, 6143, 6144, 6145, -4095, -4096, -4097,
            -6143, -6144, -6145, 8192, 1 << 30, Integer.MAX_VALUE, Integer.MAX_VALUE - 2047, Integer.MAX_VALUE - 2048, Integer.MAX_VALUE - 4095,
            Integer.MIN_VALUE, Integer.MIN_VALUE + 1, Integer.MIN_VALUE + 2047, Integer.MIN_VALUE + 2048, Integer.MIN_VALUE + 4096, 305419896};
        for (int n : numbers) {
            boolean small = n >= -2048 && n <= 2047;
            long high = Math.floorDiv(n + 2048L, 4096L);
            long rest = n - 4096 * high;
            b.due("li " + n, small || rest == 0 ? "words 1" : "words 2", answer("li x31," + n));
            if (small) {
                b.due("li's ADDI of " + n, (n & 0xfff) << 20 | 31 << 7 | 0x13, b.tongue.word(0));
            } else {
                b.due("li's LUI of " + n, (int) (high & 0xfffff) << 12 | 31 << 7 | 0x37, b.tongue.word(0));
                b.due("li's rest of " + n, rest == 0 ? 0 : (int) (rest & 0xfff) << 20 | 31 << 15 | 31 << 7 | 0x13, b.tongue.word(4));
            }
            b.tongue.steps(small || rest == 0 ? 1 : 2);
            b.due("x31 behind li " + n, n, b.tongue.register(31));
        }
        text("li x1,2047\nli x1,2048\nli x1,4096\na: j a", "words 5");
        b.due("a label counts li's words", 0x6f, b.tongue.word(16));
    }

    private static String many(int from, int to) {
        StringBuilder s = new StringBuilder();
        for (int k = from; k <= to; k++) {
            s.append('l').append(k).append(":\n");
        }
        return s.toString();
    }

    /** "At most 200 labels, one a line; a name: 20 letters of both kinds, digits and _ , not beginning with a digit". */
    private static void labels() {
        text(many(1, 200), "words 0");
        text(many(1, 201), "error 3 line 201");
        text(many(1, 200) + "\n\nl201: nop", "error 3 line 203");
        text(many(1, 200) + "j l200\nj l1", "words 2");
        text("a: nop\nb: nop\na: nop", "error 3 line 3");
        text("a:\na:", "error 3 line 2");
        text("a: b: nop", "error 1 line 1");
        text("a:\nA:\na1:\n_a:\na_:", "words 0");
        String twenty = "aZ_09aZ_09aZ_09aZ_09";
        text(twenty + ": j " + twenty, "words 1");
        text(twenty + "x: nop", "error 1 line 1");
        text("j " + twenty + "x", "error 1 line 1");
        text("j " + twenty, "error 2 line 1");
        text("zZ_90: j zZ_90", "words 1");
        for (String wrong : new String[] {"0a", "9", "-a", "a-", ".a", "a.b", "a$", ""}) {
            text(wrong + ": nop", "error 1 line 1");
        }
        text("j a", "error 2 line 1");
        text("jal x1,a", "error 2 line 1");
        for (String branch : new String[] {"beq x1,x2", "bne x1,x2", "blt x1,x2", "bge x1,x2", "bltu x1,x2", "bgeu x1,x2", "beqz x1", "bnez x1"}) {
            text(branch + ",a", "error 2 line 1");
            text("a: " + branch + ",a", "words 1");
            text(branch + ",8", "error 1 line 1");
        }
        text("j 8", "error 1 line 1");
        text("j -8", "error 1 line 1");
        text("ab: nop\nj a\n", "error 2 line 2");
        text("a: nop\nj ab\n", "error 2 line 2");
    }

    /** Ways up to the farthest that a tape has room for. */
    private static void ways() {
        for (int n : new int[] {0, 1, 2, 7, 8, 15, 16, 31, 32, 63, 64, 127, 128, 255, 256, 510, 511, 512, 513, 1000, 1020}) {
            String nops = "nop\n".repeat(n);
            b.due("a branch over " + n, "words " + (n + 1), answer("beqz x0,a\n" + nops + "a:"));
            b.tongue.steps(1);
            b.due("where it goes", 4 * n + 4, b.tongue.look(7));
            b.due("jal over " + n, "words " + (n + 1), answer("jal x1,a\n" + nops + "a:"));
            b.tongue.steps(1);
            b.due("where it goes", 4 * n + 4, b.tongue.look(7));
            b.due("a branch back over " + n, "words " + (n + 1), answer("a:\n" + nops + "beqz x0,a"));
            b.tongue.jump(4 * n);
            b.tongue.steps(1);
            b.due("where it goes", 0, b.tongue.look(7));
            b.due("j back over " + n, "words " + (n + 1), answer("a:\n" + nops + "j a"));
            b.tongue.jump(4 * n);
            b.tongue.steps(1);
            b.due("where it goes", 0, b.tongue.look(7));
        }
    }

    /** "First all lines are looked at, in each its form (1), then its label (3), its numbers (4); then the ways (2, 4)". */
    private static void orderOfErrors() {
        text("a:\na: addi x1,x2,9999 x3", "error 1 line 2");
        text("a:\na: addi x1,x2,9999", "error 3 line 2");
        text("a:\nb: addi x1,x2,9999", "error 4 line 2");
        text("a:\nb: addi x1,x2,9999\nnone", "error 4 line 2");
        text("j c\nb: addi x1,x2,9999\nnone", "error 4 line 2");
        text("j c\na:\na:\nnone", "error 3 line 3");
        text("j c\nnone", "error 1 line 2");
        text("j c\nj d\nnop", "error 2 line 1");
        text("d: j d\nj d\nbeq x1,x2,c\nj b", "error 2 line 3");
        text("none\n\u0000", "error 1 line 1");
        text("nop\n\n\n# \u0000", "error 1 line 4");
        text("addi x1,x2,9999 # \u0000", "error 1 line 1");
        text("\n\n\nnop\nnone\n\n", "error 1 line 5");
        text("none", "error 1 line 1");
        text("addi x1,x2,4000\naddi x1,x2,9999", "error 4 line 1");
        text("li x1,2147483648,5", "error 1 line 1");
    }

    private static String state() {
        StringBuilder s = new StringBuilder();
        for (int k : new int[] {0, 1, 4, 6, 7, 8, 10}) {
            s.append(b.tongue.look(k)).append(' ');
        }
        for (int k = 0; k < 32; k++) {
            s.append(b.tongue.register(k)).append(' ').append(b.tongue.element(k, 3)).append(' ');
        }
        for (int at = 0; at < 400; at += 4) {
            s.append(b.tongue.word(at)).append(' ');
        }
        return s.append(b.tongue.word(65532)).toString();
    }

    /** "or -1 less its error (then nothing changes but look 9)". */
    private static void refusedChangesNothing() {
        String[] wrong = {"nop\nnone", "nop\nj a", "a: nop\na: nop", "nop\nli x1,2147483648"};
        for (int k = 0; k < wrong.length; k++) {
            b.fresh();
            b.line("a=.5", ": 5");
            b.tongue.setRegister(7, 9);
            b.tongue.setElement(3, 3, 4);
            b.tongue.setWord(65532, 6);
            b.assemble("vsetivli x1,3,e32,m2\nnop\nebreak\nnop\nnop");
            b.tongue.steps(k == 0 ? 2 : 10);
            String before = state();
            int error = new int[] {1, 2, 3, 4}[k];
            b.due(wrong[k], -1 - error, b.assemble(wrong[k]));
            b.due(wrong[k] + " changes nothing", before, state());
            b.due(wrong[k] + " look(9)", 2, b.tongue.look(9));
            b.due("an empty tape", 0, b.tongue.assemble());
            b.due("look(9) behind it", 0, b.tongue.look(9));
            b.due("state and PC", "0 0", b.tongue.look(6) + " " + b.tongue.look(7));
            b.due("the words stay", 0xc111f0d7, b.tongue.word(0));
        }
    }

    /** A text behind a longer one that began like it: nothing of the longer one counts. */
    private static void shorterTexts() {
        String[] texts = {"a: add x11,x22,x31", "lw x11,-44(x22)", "jalr x11,x12,-45", "jalr x11,-45(x12)", ".word 1234", "nop:nop",
            "vadd.vv v11,v12,v13,v0.t", "vsetvli x11,x12,e32,m2,ta,mu", "li x11,-4444", "vid.v v12,v0.t", "vmerge.vim v11,v12,-15,v0",
            "a: j a", "abc: beqz x12,abc", "nop # x"};
        for (String text : texts) {
            for (int k = 0; k < text.length(); k++) {
                String part = text.substring(0, k);
                String alone = answer(part);
                int word = b.tongue.word(0);
                b.fresh();
                b.assemble(text);
                b.tongue.setWord(0, 0);
                int count = b.assemble(part);
                b.due("'" + part + "' behind '" + text + "'", alone,
                        count >= 0 ? "words " + count : "error " + (-1 - count) + " line " + b.tongue.look(9));
                b.due("its word", word, b.tongue.word(0));
            }
        }
    }

    private static void jumpForms() {
        for (int n : new int[] {-2048, -1, 0, 1, 2047}) {
            text("jalr x31,x29," + n + "\njalr x31," + n + "(x29)\njalr x0,x1," + n, "words 3");
            int word = (n & 0xfff) << 20 | 29 << 15 | 31 << 7 | 0x67;
            b.due("jalr rd, rs1, n", word, b.tongue.word(0));
            b.due("jalr rd, n(rs1)", word, b.tongue.word(4));
            b.due("jalr x0", (n & 0xfff) << 20 | 1 << 15 | 0x67, b.tongue.word(8));
        }
    }
}
