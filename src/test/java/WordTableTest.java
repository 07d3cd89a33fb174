import java.io.IOException;
import java.nio.file.Files;
import java.nio.file.Path;
import java.util.ArrayList;
import java.util.List;

/**
 * Promise 6: which words there are. Every opcode, funct3 and funct7 is tried: what the table words.bits
 * does not have is a fault that changes nothing, the others are done. Then every vector register's place
 * with each LMUL: "a vector register's number (of a group, which is told by elements) that is not a
 * multiple of LMUL", and "v0 as vd of elements with VM 0 (not of VRED..): FAULT".
 */
public final class WordTableTest {
    private static final Bench b = new Bench("WordTableTest");
    private static final int WORDS_EACH = 70;
    private static final int TYPE = 16;
    private static final int BASE = 32768;
    private static final List<String> table = new ArrayList<>();
    private static final List<int[]> fixedAndOnes = new ArrayList<>();
    private static int tried;

    public static void main(String[] args) throws IOException {
        for (String row : Files.readAllLines(Path.of("src/test/tables/words.bits"))) {
            if (!row.startsWith(";; ")) {
                String packed = row.substring(0, row.indexOf("  ")).replace(" ", "") + row.substring(row.indexOf("  "));
                table.add(packed);
                fixedAndOnes.add(new int[] {bits(packed, '0') | bits(packed, '1'), bits(packed, '1')});
            }
        }
        allWords();
        allOfVectors();
        allTypes();
        for (String row : table) {
            groups(row);
        }
        b.end();
    }

    private static int bits(String row, char one) {
        int v = 0;
        for (int k = 0; k < 32; k++) {
            v = v << 1 | (row.charAt(k) == one ? 1 : 0);
        }
        return v;
    }

    private static String rowOf(int word) {
        for (int k = 0; k < table.size(); k++) {
            if ((word & fixedAndOnes.get(k)[0]) == fixedAndOnes.get(k)[1]) {
                return table.get(k);
            }
        }
        return "none";
    }

    private static void fresh() {
        if (tried % WORDS_EACH == 0) {
            b.fresh();
            for (int k = 1; k < 32; k++) {
                b.tongue.setRegister(k, BASE);
            }
        }
        tried++;
    }

    /** Does a word with VL 0, registers of 32768 and a right VTYPE in x8: its state is due. */
    private static void word(int word, int want) {
        fresh();
        b.tongue.setRegister(8, TYPE);
        b.tongue.setWord(0, word);
        b.tongue.jump(0);
        int steps = b.tongue.steps(1);
        int state = b.tongue.look(6);
        int pc = b.tongue.look(7);
        if (steps != 1 || state != want || want != 0 && (pc != 0 || b.tongue.register(8) != TYPE)) {
            b.due(Integer.toHexString(word) + " " + rowOf(word) + " (steps " + steps + ", PC " + pc + ")", want, state);
        }
        if (b.tongue.look(8) != 0 || b.tongue.look(10) != 1) {
            b.due(Integer.toHexString(word) + " sets VL", true, rowOf(word).contains("VSET"));
            tried = 0;
        }
    }

    private static int due(int word) {
        String row = rowOf(word);
        if (row.equals("none")) {
            return 2;
        }
        if (row.endsWith("EBREAK")) {
            return 1;
        }
        return row.endsWith("VSETVL") && (word >>> 20 & 31) != 8 ? 2 : 0;
    }

    private static void allWords() {
        int seen = 0;
        for (int k = 0; k < 1 << 18; k++) {
            int opcode = k & 127;
            int funct3 = k >> 7 & 7;
            int funct7 = k >> 10 & 127;
            int rs2 = (k >> 17 & 1) * 8;
            int word = funct7 << 25 | rs2 << 20 | 10 << 15 | funct3 << 12 | 8 << 7 | opcode;
            word(word, due(word));
            seen++;
        }
        b.due("words", 1 << 18, seen);
        word(0x00100073, 1);
        for (int k = 0; k < 25; k++) {
            int near = 0x00100073 ^ 1 << 7 + k;
            word(near, due(near));
        }
    }

    private static void allOfVectors() {
        for (int k = 0; k < 1 << 16; k++) {
            int rs2 = (k >> 15) * 8;
            int word = (k & 127) << 25 | rs2 << 20 | (k >> 7 & 31) << 15 | (k >> 12 & 7) << 12 | 8 << 7 | 0x57;
            word(word, due(word));
        }
    }

    /** "VTYPE: LMUL 1 2 4 8 by bits 2..0 = 0 1 2 3, bits 5..3 = 2, bits 7, 6 any, others 0; another one: FAULT". */
    private static void allTypes() {
        for (int type = 0; type < 2048; type++) {
            boolean right = (type & ~0xc3) == TYPE;
            tried = 0;
            word(type << 20 | 0x7057, right ? 0 : 2);
            b.due("VSETVLI of " + type, right ? 1 << (type & 7) : 1, b.tongue.look(10));
            tried = 0;
            word((type & 1023 | 3072) << 20 | 0x7057, (type & 0x33c) == TYPE ? 0 : 2);
        }
        for (int k = 0; k < 32; k++) {
            tried = 0;
            fresh();
            b.tongue.setRegister(9, TYPE ^ 1 << k);
            b.tongue.setWord(0, 0x80907057);
            b.tongue.steps(1);
            b.due("VSETVL with bit " + k, k < 2 || k == 6 || k == 7 ? 0 : 2, b.tongue.look(6));
        }
    }

    private static void groups(String row) {
        int ones = bits(row, '1');
        int[] places = {20, 15, 7};
        for (int lmul = 0; lmul < 4; lmul++) {
            for (int masked = 0; masked < 2; masked++) {
                for (int place = 0; place < 3; place++) {
                    for (int k = 0; k < 32; k++) {
                        int word = ones;
                        for (int p : places) {
                            word |= isRegister(row, p) ? 8 << p : 0;
                        }
                        word = masked == 0 && row.charAt(6) == '-' ? word | 1 << 25 : word;
                        if (isRegister(row, places[place])) {
                            word = word & ~(31 << places[place]) | k << places[place];
                            vectorWord(row, word, lmul);
                        }
                    }
                }
            }
        }
    }

    private static boolean isRegister(String row, int place) {
        return "GBS".indexOf(row.charAt(31 - place)) >= 0;
    }

    private static void vectorWord(String row, int word, int lmul) {
        boolean faults = false;
        for (int place : new int[] {20, 15, 7}) {
            boolean group = "GS".indexOf(row.charAt(31 - place)) >= 0;
            faults |= group && (word >>> place & 31) % (1 << lmul) != 0;
        }
        boolean unmasked = (word >>> 25 & 1) == 1;
        faults |= row.charAt(24) == 'G' && (word >>> 7 & 31) == 0 && !unmasked;
        fresh();
        b.tongue.setWord(0, (TYPE + lmul | 3072) << 20 | 0x7057);
        b.tongue.setWord(4, word);
        b.tongue.jump(0);
        b.tongue.steps(2);
        int state = b.tongue.look(6);
        if (state != (faults ? 2 : 0)) {
            b.due(Integer.toHexString(word) + " " + row + " with LMUL " + (1 << lmul), faults ? 2 : 0, state);
        }
    }
}
