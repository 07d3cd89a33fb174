import java.io.IOException;
import java.nio.file.Files;
import java.nio.file.Path;

/** Promise 6: the vector words, from the table of what another machine does with them. */
public final class VectorWordsTest {
    private static final Bench b = new Bench("VectorWordsTest");
    private static final int[] SCALARS = {3, -1, -2147483648, 2147483647, 12345, 9, 0, 100};

    public static void main(String[] args) throws IOException {
        for (String row : Files.readAllLines(Path.of("src/test/tables/vectors.asm"))) {
            if (!row.startsWith(";; ")) {
                look(row);
            }
        }
        b.end();
    }

    private static int before(int k, int i) {
        return k < 16 ? (k * 4 + i + 1) * 0x9e3779b1 : (7 * k + 5 * i) % 23 - 3;
    }

    private static void look(String row) {
        int end = row.indexOf(" ; m");
        int arrow = row.indexOf(" => ");
        String[] type = row.substring(end + 3, arrow).split(" ");
        b.fresh();
        for (int k = 0; k < 32; k++) {
            for (int i = 0; i < 4; i++) {
                b.tongue.setElement(k, i, before(k, i));
            }
        }
        b.tongue.setRegister(9, 77);
        for (int k = 0; k < SCALARS.length; k++) {
            b.tongue.setRegister(10 + k, SCALARS[k]);
        }
        int count = b.assemble("vsetivli x0, " + type[1] + ", e32, " + type[0] + "\n" + row.substring(0, end));
        b.due(row + " words", 2, count);
        b.due(row + " steps", 2, b.tongue.steps(2));
        b.due(row + " state", 0, b.tongue.look(6));
        b.due(row, row.substring(arrow + 4), changed());
    }

    private static String changed() {
        StringBuilder s = new StringBuilder();
        for (int k = 0; k < 32; k++) {
            boolean other = false;
            StringBuilder now = new StringBuilder("v" + k);
            for (int i = 0; i < 4; i++) {
                other |= b.tongue.element(k, i) != before(k, i);
                now.append(' ').append(b.tongue.element(k, i));
            }
            if (other) {
                s.append(s.length() == 0 ? "" : ", ").append(now);
            }
        }
        if (b.tongue.register(9) != 77) {
            s.append(s.length() == 0 ? "" : ", ").append("x9 ").append(b.tongue.register(9));
        }
        return s.toString();
    }
}
