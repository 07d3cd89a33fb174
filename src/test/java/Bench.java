import java.util.NoSuchElementException;

/** What the tests share: a tongue, calls on it by texts, and the count of wrong answers. */
final class Bench {
    ShapeTongue tongue = new ShapeTongue();
    private final String test;
    private int wrong;
    private int looked;

    /** A call that may throw. */
    interface Call {
        long answer();
    }

    Bench(String test) {
        this.test = test;
    }

    void fresh() {
        tongue = new ShapeTongue();
    }

    void due(String call, Object want, Object got) {
        looked++;
        if (!want.equals(got)) {
            wrong++;
            System.out.println(test + ": " + call + " answered " + got + ", due is " + want);
        }
    }

    /** Feeds a text, its characters as bytes. */
    void feed(String text) {
        for (int at = 0; at < text.length(); at += 8) {
            int n = Math.min(8, text.length() - at);
            long v = 0;
            for (int k = n - 1; k >= 0; k--) {
                v = v << 8 | text.charAt(at + k) & 255;
            }
            tongue.feed(n, v);
        }
    }

    /** The latest line's value as a text: "verb", "nothing", or "2 3: 0 1 2 3 4 5" ("" before the : of an atom). */
    String value() {
        int kind = tongue.look(1);
        if (kind != 1) {
            return kind == 2 ? "verb" : "nothing";
        }
        StringBuilder b = new StringBuilder();
        for (int k = 0; k < tongue.look(2); k++) {
            b.append(k == 0 ? "" : " ").append(tongue.axis(k));
        }
        b.append(':');
        for (int k = 0; k < tongue.look(3); k++) {
            b.append(' ').append(tongue.atom(k));
        }
        return b.toString();
    }

    String answer(int error) {
        return error != 0 ? "error " + error : value();
    }

    /** A line and its value, or its error. */
    void line(String text, String want) {
        feed(text);
        due(text, want, answer(tongue.line()));
    }

    /** A line, its value or error, and its work. */
    void line(String text, String want, int work) {
        line(text, want);
        due(text + " work", work, tongue.look(5));
    }

    void machineLine(String text, String want) {
        feed(text);
        due("(machine) " + text, want, answer(tongue.machine()));
    }

    int name(String text) {
        feed(text);
        return tongue.name();
    }

    int assemble(String text) {
        feed(text);
        return tongue.assemble();
    }

    /** What a call throws, by its simple name, or "answers". */
    static String thrown(Call call) {
        try {
            call.answer();
            return "answers";
        } catch (IllegalArgumentException | IllegalStateException | NoSuchElementException e) {
            return e.getClass().getSimpleName();
        }
    }

    void throwing(String call, String want, Call made) {
        due(call, want, thrown(made));
    }

    void end() {
        if (looked == 0) {
            System.out.println(test + ": nothing was looked at");
        }
        System.out.println(test + ": " + looked + " looked at, " + wrong + " wrong");
        System.exit(wrong == 0 && looked > 0 ? 0 : 1);
    }
}
