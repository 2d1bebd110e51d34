import java.nio.charset.StandardCharsets;

/** What the tests share: counting answers, and telling a text to a LeakyLine. */
final class Check {
    private final String name;
    private int right = 0;
    private int wrong = 0;

    Check(String name) {
        this.name = name;
    }

    void due(String call, long want, long got) {
        if (got == want) {
            right++;
            return;
        }
        wrong++;
        if (wrong <= 50) {
            System.out.println(name + ": " + call + " answered " + got + ", due is " + want);
        }
    }

    void holds(String what, boolean held) {
        due(what, 1, held ? 1 : 0);
    }

    boolean isRight() {
        return wrong == 0;
    }

    /** Ends the test's process, with 1 if an answer was wrong. */
    void close() {
        System.out.println(name + ": " + right + " answers as due, " + wrong + " not");
        System.exit(wrong == 0 ? 0 : 1);
    }

    /** Puts a text on the TAPE, in place of what is there: what end() answers. */
    static int tape(LeakyLine x, String text) {
        return tape(x, text.getBytes(StandardCharsets.ISO_8859_1));
    }

    static int tape(LeakyLine x, byte[] bytes) {
        x.end(0);
        for (int i = 0; i < bytes.length; i += 20) {
            x.feed(four(bytes, i), four(bytes, i + 4), four(bytes, i + 8), four(bytes, i + 12), four(bytes, i + 16));
        }
        return x.end(bytes.length);
    }

    static int tell(LeakyLine x, String text) {
        tape(x, text);
        return x.wire();
    }

    static LeakyLine told(String text) {
        LeakyLine x = new LeakyLine();
        tell(x, text);
        return x;
    }

    private static int four(byte[] bytes, int from) {
        int all = 0;
        for (int i = from; i < from + 4; i++) {
            all = (all << 8) | (i < bytes.length ? bytes[i] & 255 : 0);
        }
        return all;
    }

    static int row(LeakyLine x, int slot, int width, long... numbers) {
        int answer = x.row(slot, width, numbers.length);
        for (int i = 0; i < numbers.length; i++) {
            x.write(slot, i, numbers[i]);
        }
        return answer;
    }
}
