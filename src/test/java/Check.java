import java.nio.charset.StandardCharsets;
import java.util.NoSuchElementException;

/** What the tests share: answers that are due, and texts brought onto a tape. */
final class Check {
    private static int wrong = 0;
    private static int checked = 0;
    private static int shown = 0;
    private static String sentence = "";

    private Check() {
    }

    /** The answers that follow are due by this sentence. */
    static void by(String words) {
        sentence = words + ": ";
        shown = 0;
    }

    static void due(String what, long got, long want) {
        checked++;
        if (got != want) {
            wrong++;
            shown++;
            if (shown <= 20) {
                System.out.println(sentence + what + " answered " + got + ", due is " + want);
            }
        }
    }

    static void due(String what, boolean got, boolean want) {
        due(what, got ? 1 : 0, want ? 1 : 0);
    }

    static void judgeThrows(BenchComposer x, int judge, int what) {
        boolean thrown = false;
        try {
            x.judge(judge, what);
        } catch (NoSuchElementException e) {
            thrown = true;
        }
        due("judge(" + judge + ", " + what + ") throws", thrown, true);
    }

    static void ofThrows(BenchComposer x, int one, int what) {
        boolean thrown = false;
        try {
            x.of(one, what);
        } catch (NoSuchElementException e) {
            thrown = true;
        }
        due("of(" + one + ", " + what + ") throws", thrown, true);
    }

    /** Ends the test: exit code 1 if an answer was wrong. */
    static void close(String name) {
        System.out.println(name + ": " + checked + " answers looked at, " + wrong + " wrong");
        if (wrong != 0) {
            System.exit(1);
        }
    }

    static byte[] bytes(String text) {
        return text.getBytes(StandardCharsets.ISO_8859_1);
    }

    /** Four bytes from a place on as one number, the highest first; zeros behind the end. */
    static int word(byte[] bytes, int from) {
        int word = 0;
        for (int i = from; i < from + 4; i++) {
            word = word << 8 | (i < bytes.length ? bytes[i] & 255 : 0);
        }
        return word;
    }

    /** The text alone is on the tape then (at most 540 bytes). */
    static void bring(BenchComposer x, String text) {
        byte[] bytes = bytes(text);
        x.end(0);
        for (int i = 0; i < bytes.length; i += 20) {
            x.feed(word(bytes, i), word(bytes, i + 4), word(bytes, i + 8), word(bytes, i + 12),
                    word(bytes, i + 16));
        }
        due("end behind the text", x.end(bytes.length), true);
    }

    static int tell(BenchComposer x, String text) {
        bring(x, text);
        return x.text();
    }

    /** A TEXT of so many LINES. */
    static void right(String text, int lines) {
        BenchComposer x = new BenchComposer();
        due("text: " + text, tell(x, text), lines);
        due("fault of: " + text, x.fault(), 0);
        due("tape behind: " + text, x.now(6), 0);
    }

    /** A text with a FAULT. */
    static void wrong(String text, int place, int kind) {
        BenchComposer x = new BenchComposer();
        due("text: " + text, tell(x, text), -1 - place);
        due("fault of: " + text, x.fault(), kind);
        due("tape behind: " + text, x.now(6), 0);
        due("judges behind: " + text, x.now(0), 0);
    }
}
