import java.nio.charset.StandardCharsets;

/** What the tests share: a count of wrong answers, and texts written eight bytes a call. */
final class Due {
    private static int wrong = 0;
    private static int asked = 0;

    private Due() {
    }

    static void is(String call, long got, long want) {
        asked++;
        if (got != want) {
            wrong++;
            if (wrong <= 50) {
                System.out.println(call + " answered " + got + ", due is " + want);
            }
        }
    }

    static void holds(String what, boolean so) {
        is(what, so ? 1 : 0, 1);
    }

    /** Writes a text behind what is there; answers what the last call answered. */
    static int write(MasonMarks x, byte[] bytes) {
        int last = x.count(4);
        for (int at = 0; at < bytes.length; at += 8) {
            int n = Math.min(8, bytes.length - at);
            long v = 0;
            for (int i = 0; i < n; i++) {
                v = v << 8 | bytes[at + i] & 255;
            }
            last = x.write(n, v);
        }
        return last;
    }

    static int write(MasonMarks x, String text) {
        return write(x, text.getBytes(StandardCharsets.ISO_8859_1));
    }

    /** A new object with this text laid. */
    static MasonMarks laid(String text) {
        MasonMarks x = new MasonMarks();
        write(x, text);
        holds("laid: " + text, x.lay() >= 0);
        return x;
    }

    /** Ends the test: exit code 1 if an answer was wrong. */
    static void end() {
        System.out.println(asked + " answers asked, " + wrong + " wrong");
        if (wrong != 0) {
            System.exit(1);
        }
    }
}
