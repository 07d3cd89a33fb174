import java.io.IOException;
import java.nio.file.Files;
import java.nio.file.Path;

/**
 * Promises 5 and 6 to 13: programs by chance, with what a second program made of them. It has
 * the same author, so it tells slips, not sentences of the document that were read wrongly both times.
 * TablesTest has its lines of arrays.
 */
public final class SecondTest {
    private static final Bench b = new Bench("SecondTest");
    private static final int FROM = 1024;

    public static void main(String[] args) throws IOException {
        for (String row : Files.readAllLines(Path.of("src/test/tables/second.asm"))) {
            if (!row.startsWith(";; ")) {
                assembled(row);
            }
        }
        for (String row : Files.readAllLines(Path.of("src/test/tables/second.words"))) {
            if (!row.startsWith(";; ")) {
                stepped(row);
            }
        }
        b.end();
    }

    private static void assembled(String row) {
        int arrow = row.lastIndexOf(" => ");
        b.fresh();
        int count = b.assemble(row.substring(0, arrow).replace("\\n", "\n").replace("\\t", "\t"));
        StringBuilder got = new StringBuilder(count + " " + b.tongue.look(9));
        for (int k = 0; k < count; k++) {
            got.append(String.format(" %08x", b.tongue.word(4 * k)));
        }
        b.due(row, row.substring(arrow + 4), got.toString());
        b.due(row + " memory behind it", 0, b.tongue.word(4 * Math.max(count, 0)));
    }

    private static int mixed(int a) {
        return a * 0x9e3779b1;
    }

    private static int registerBefore(int k) {
        return k == 0 ? 0 : k % 2 == 0 ? 4 * (mixed(k) >>> 18) : k % 4 == 1 ? mixed(k) : k - 16;
    }

    private static int elementBefore(int k, int i) {
        return k < 8 ? mixed(16 * k + i + 1)
                : k < 16 ? 4 * (mixed(16 * k + i) >>> 18) : (7 * k + 5 * i) % 23 - 3;
    }

    private static void stepped(String row) {
        int arrow = row.indexOf(" => ");
        String[] parts = row.substring(0, arrow).split("; ");
        int e = Integer.parseInt(parts[0]);
        int[] before = begin(e, parts[1].split(" "));
        ShapeTongue t = b.tongue;
        StringBuilder got = new StringBuilder();
        got.append(t.steps(Integer.parseInt(parts[2]))).append(' ').append(t.look(6)).append(' ');
        got.append(t.look(7)).append(' ').append(t.look(8)).append(' ').append(t.look(10));
        for (int k = 0; k < 32; k++) {
            tell(got, "x" + k, registerBefore(k), t.register(k));
        }
        for (int k = 0; k < 32 * e; k++) {
            int now = t.element(k / e, k % e);
            tell(got, "v" + k / e + "." + k % e, elementBefore(k / e, k % e), now);
        }
        for (int k = 0; k < before.length; k++) {
            tell(got, "m" + 4 * k, before[k], t.word(4 * k));
        }
        b.due(row, row.substring(arrow + 4), got.toString());
    }

    private static int[] begin(int e, String[] words) {
        ShapeTongue t = b.tongue;
        t.vector(e);
        for (int k = 0; k < 32; k++) {
            t.setRegister(k, registerBefore(k));
            for (int i = 0; i < e; i++) {
                t.setElement(k, i, elementBefore(k, i));
            }
        }
        int[] memory = new int[16384];
        for (int k = 0; k < memory.length; k++) {
            int place = k - FROM / 4;
            boolean here = place >= 0 && place < words.length;
            memory[k] = here ? Integer.parseUnsignedInt(words[place], 16) : mixed(4 * k);
            t.setWord(4 * k, memory[k]);
        }
        t.jump(FROM);
        return memory;
    }

    private static void tell(StringBuilder got, String what, int before, int now) {
        if (before != now) {
            got.append(", ").append(what).append(' ').append(now);
        }
    }
}
