import java.io.IOException;
import java.nio.file.Files;
import java.nio.file.Path;
import java.util.ArrayList;
import java.util.LinkedHashMap;
import java.util.List;
import java.util.Map;
import java.util.function.IntToLongFunction;
import java.util.regex.Matcher;
import java.util.regex.Pattern;

/**
 * Answers that are due by a sentence of the document. A sentence must stand there word by word, must have answers
 * of its own, and no word of the Terms and promises may be left without one: so none can be forgotten.
 */
final class Sentences {
    private static final Path DOCUMENT = Path.of("../shared/DOC.md");
    private static final int[] FAR = {Integer.MIN_VALUE, Integer.MIN_VALUE + 1, -65536, -33, -32, -31, -2, -1, 5, 6, 14, 15,
        31, 32, 33, 63, 64, 255, 256, 65536, Integer.MAX_VALUE - 1, Integer.MAX_VALUE};

    private final Check check;
    private final Map<String, String> texts = new LinkedHashMap<>();
    private final Map<String, boolean[]> covered = new LinkedHashMap<>();
    private String part = "";
    private String sentence = "";
    private int answers = 1;

    Sentences(String name) throws IOException {
        check = new Check(name);
        String document = Files.readString(DOCUMENT);
        int from = document.indexOf("## Terms");
        int to = document.indexOf("## Promise 1:");
        int end = document.indexOf("## Not promised");
        take("(?ms)^([IV]+)\\. (.*?)(?=^[IV]+\\. |\\z)", document.substring(from, to).replaceAll("```(text)?", ""));
        take("(?ms)^## Promise (\\d+): \\w[^\\n]*\\n\\n`[^`]*`: (.*?)(?=^## |\\z)", document.substring(to, end));
        check.due("Terms and promises of the document", 8 + 87, texts.size());
    }

    private void take(String pattern, String section) {
        Matcher m = Pattern.compile(pattern).matcher(section);
        while (m.find()) {
            String text = m.group(2).trim().replaceAll("\\s+", " ");
            texts.put(m.group(1), text);
            covered.put(m.group(1), new boolean[text.length()]);
        }
    }

    void promise(int number, String quoted) {
        say("" + number, quoted);
    }

    void term(String number, String quoted) {
        say(number, quoted);
    }

    private void say(String number, String quoted) {
        check.holds(label() + " has answers of its own", answers > 0);
        part = number;
        sentence = quoted;
        answers = 0;
        String text = texts.getOrDefault(number, "");
        int at = text.indexOf(quoted);
        check.holds(label() + " stands in the document", at >= 0);
        for (int i = 0; at >= 0 && i < quoted.length(); i++) {
            covered.get(number)[at + i] = true;
        }
    }

    private String label() {
        return part + ", '" + sentence + "'";
    }

    void due(String call, long want, long got) {
        answers++;
        check.due(label() + ": " + call, want, got);
    }

    void holds(String what, boolean held) {
        answers++;
        check.holds(label() + ": " + what, held);
    }

    /** Every number outside of first .. last is answered by the refusal; first and last are not. */
    void refusedBeyond(String call, long refusal, int first, int last, IntToLongFunction f) {
        refused(call, refusal, first - 1, f);
        refused(call, refusal, last + 1, f);
        for (int far : FAR) {
            if (far < first || far > last) {
                refused(call, refusal, far, f);
            }
        }
        holds(call + " of " + first + " is no refusal", f.applyAsLong(first) != refusal);
        holds(call + " of " + last + " is no refusal", f.applyAsLong(last) != refusal);
    }

    private void refused(String call, long refusal, int given, IntToLongFunction f) {
        due(call + " of " + given, refusal, f.applyAsLong(given));
    }

    void close() {
        check.holds(label() + " has answers of its own", answers > 0);
        for (String number : texts.keySet()) {
            for (String left : leftOut(number)) {
                check.holds(number + ": '" + left + "' has a test", false);
            }
        }
        check.close();
    }

    private List<String> leftOut(String number) {
        List<String> all = new ArrayList<>();
        String text = texts.get(number);
        StringBuilder left = new StringBuilder();
        for (int i = 0; i <= text.length(); i++) {
            if (i < text.length() && !covered.get(number)[i]) {
                left.append(text.charAt(i));
            } else {
                if (left.toString().matches(".*\\w.*")) {
                    all.add(left.toString());
                }
                left.setLength(0);
            }
        }
        return all;
    }
}
