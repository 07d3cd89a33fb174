import java.util.Set;

/** Promises 3 and 14: which bytes and signs a line may have: all bytes, and all signs with dots and colons. */
public final class SignsTest {
    private static final Bench b = new Bench("SignsTest");
    private static final Set<String> VERBS = Set.of("+", "-", "*", "%", "^", "|", "<", ">", "=", "<:", ">:", "<.", ">.", "~:", "+.",
            "*.", "-.", "$", "#", ",", "i.", "{.", "}.", "{", "|.", "|:", "/:", "\\:", "e.", "~.", "[", "]");
    private static final Set<String> OTHERS = Set.of("/", "\\", "~", "\"", "&", "@", "=.", "(", ")");
    private static final String[] ENDS = {"", ".", ":", "..", ".:", ":.", "::", "...", "..:", ".::", ":::"};

    public static void main(String[] args) {
        bytesAlone();
        bytesWithin();
        signs();
        long400();
        b.end();
    }

    private static String played(String text, boolean machine) {
        b.fresh();
        b.feed(text);
        return b.answer(machine ? b.tongue.machine() : b.tongue.line());
    }

    /** "A LINE: bytes 32 .. 126", "Signs that are not told below, other bytes, _ without a digit: ERROR 1". */
    private static void bytesAlone() {
        for (int c = 0; c < 256; c++) {
            String text = "" + (char) c;
            String want = "error 1";
            if (c == ' ') {
                want = "nothing";
            } else if (c >= '0' && c <= '9') {
                want = ": " + text;
            } else if (c >= 'a' && c <= 'z' || c >= 'A' && c <= 'Z') {
                want = "error 2";
            } else if (VERBS.contains(text)) {
                want = "verb";
            } else if (OTHERS.contains(text)) {
                want = "error 3";
            }
            b.due("byte " + c, want, played(text, false));
            b.due("byte " + c + " (machine)", want, played(text, true));
        }
    }

    private static void bytesWithin() {
        for (int c = 0; c < 256; c++) {
            boolean blank = c == ' ';
            boolean digit = c >= '0' && c <= '9';
            boolean wrong = c < 32 || c > 126 || "!'.:;?`_}".indexOf(c) >= 0;
            if (blank || wrong) {
                b.due("byte " + c + " between", blank ? ": 11" : "error 1", played("5" + (char) c + "+6", false));
            }
            b.due("a name's byte " + c, digit || Character.isLetter(c) && c < 128,
                    played("ab" + (char) c + "=.5", false).equals(": 5") && b.name("ab") == 0);
        }
    }

    private static void signs() {
        String firsts = "+-*%^|<>=~$#,{}/\\\"&@[]()ie";
        for (int k = 0; k < firsts.length(); k++) {
            for (String end : ENDS) {
                String sign = firsts.charAt(k) + end;
                String want = VERBS.contains(sign) ? "verb" : OTHERS.contains(sign) ? "error 3" : "error 1";
                want = sign.equals("i") || sign.equals("e") ? "error 2" : want;
                b.due(sign, want, played(sign, false));
                b.due(sign + " and a blank", want, played(sign + " ", false));
                if (want.equals("verb")) {
                    b.due("(" + sign + ")", "verb", played("(" + sign + ")", true));
                    b.due(sign + sign, "verb", played(sign + sign, false));
                }
            }
        }
    }

    /** "one of more than 400 is ERROR 9, ahead of all". */
    private static void long400() {
        for (int c : new int[] {0, 10, 31, 32, '!', '5', 'a', '/', '(', '_', 127, 255}) {
            String text = ("" + (char) c).repeat(400);
            boolean machine = c % 2 == 1;
            b.due("400 times byte " + c, false, played(text, machine).equals("error 9"));
            b.due("401 times byte " + c, "error 9", played(text + (char) c, machine));
            b.due("its work", 0, b.tongue.look(5));
            b.due("the tape behind it", 0, b.tongue.look(0));
            b.due("a line behind it", ": 7", b.answer(next("3+4")));
        }
        for (int n : new int[] {402, 408, 512, 1000, 4095, 4096}) {
            b.due(n + " blanks", "error 9", played(" ".repeat(n), false));
        }
    }

    private static int next(String text) {
        b.feed(text);
        return b.tongue.line();
    }
}
