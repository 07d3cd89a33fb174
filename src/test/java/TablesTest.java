import java.io.IOException;
import java.nio.charset.StandardCharsets;
import java.nio.file.Files;
import java.nio.file.Path;
import java.util.List;

/**
 * Promises 3 and 14: lines and machine lines, from the tables under src/test/tables. A row there is a
 * line, " => ", its value or error, and its work in brackets; " .." ends a value that is told in part.
 */
public final class TablesTest {
    private static final Bench b = new Bench("TablesTest");
    private static final String MACHINE = ";machine ";

    public static void main(String[] args) throws IOException {
        for (String table : List.of("words", "atoms", "whole", "made", "limits", "machine", "edges", "second")) {
            b.fresh();
            Path path = Path.of("src/test/tables", table + ".lines");
            for (String row : Files.readAllLines(path, StandardCharsets.ISO_8859_1)) {
                if (row.isEmpty()) {
                    b.fresh();
                } else if (!row.startsWith(";; ")) {
                    look(row);
                }
            }
        }
        b.end();
    }

    private static void look(String row) {
        int arrow = row.lastIndexOf(" => ");
        int bracket = row.lastIndexOf(" (");
        boolean machine = row.startsWith(MACHINE);
        String text = row.substring(machine ? MACHINE.length() : 0, arrow);
        String want = row.substring(arrow + 4, bracket);
        int work = Integer.parseInt(row.substring(bracket + 2, row.length() - 1));
        b.feed(text);
        String got = b.answer(machine ? b.tongue.machine() : b.tongue.line());
        if (want.endsWith(" ..")) {
            got = got.substring(0, Math.min(want.length() - 2, got.length())) + "..";
        }
        b.due(row, want, got);
        b.due(row + " (its work)", work, b.tongue.look(5));
    }
}
