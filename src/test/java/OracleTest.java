import java.lang.reflect.Method;
import java.nio.charset.StandardCharsets;
import java.util.ArrayList;
import java.util.Arrays;
import java.util.List;
import java.util.Random;
import java.util.TreeMap;

/** Runs of calls drawn from fixed seeds, each answer held against the Oracle's. */
public final class OracleTest {
    private static final String[] WORDS = {"wire", "days", "law", "odds", "volts", "span", "leak", "needs", "wet"};
    private final Check check = new Check("OracleTest");
    private final TreeMap<String, Method> face = new TreeMap<>();
    private final List<String> names = new ArrayList<>();
    private Random random;
    private LeakyLine x;
    private Answers answers;
    private int run;
    private int calls;

    public static void main(String[] args) throws Exception {
        OracleTest t = new OracleTest();
        int runs = args.length > 0 ? Integer.parseInt(args[0]) : 150;
        for (int run = 0; run < runs && t.check.isRight(); run++) {
            t.play(run);
        }
        for (int run = 0; run < 20 * runs && t.check.isRight(); run++) {
            t.playFaults(run);
        }
        t.check.close();
    }

    private OracleTest() {
        for (Method m : LeakyLine.class.getDeclaredMethods()) {
            if (java.lang.reflect.Modifier.isPublic(m.getModifiers())) {
                face.put(m.getName(), m);
            }
        }
        names.addAll(face.keySet());
        names.removeAll(List.of("feed", "end", "wire", "row", "write", "image", "back", "anew", "cups", "snaps"));
    }

    private void start(int number) {
        run = number;
        random = new Random(number * 7919L + 1);
        x = new LeakyLine();
        answers = new Answers();
        calls = 0;
    }

    private long call(String name, long... a) throws Exception {
        Method m = face.get(name);
        Object[] given = new Object[a.length];
        for (int i = 0; i < a.length; i++) {
            given[i] = m.getParameterTypes()[i] == long.class ? (Object) a[i] : (Object) (int) a[i];
        }
        calls++;
        long want = answers.answer(name, a);
        long got = ((Number) m.invoke(x, given)).longValue();
        check.due("run " + run + ", call " + calls + ", " + name + Arrays.toString(a), want, got);
        return got;
    }

    private void play(int number) throws Exception {
        start(number);
        while (calls < 480) {
            int what = random.nextInt(100);
            if (calls > 5 && what < 3 || answers.o.w == null && what < 30) {
                tell(wireText());
            } else if (what < 9) {
                call(random.nextInt(3) == 0 ? "snaps" : "cups", near(answers.o.w == null ? 1 : answers.o.w.spans.size()), day());
            } else if (what < 10) {
                call(random.nextBoolean() ? "anew" : "undo");
            } else if (what < 14) {
                call(random.nextInt(3) > 0 ? "image" : "back", near(3));
            } else if (what < 20) {
                seenRow();
            } else {
                String name = names.get(random.nextInt(names.size()));
                call(name, drawArguments(name));
            }
        }
    }

    private void playFaults(int number) throws Exception {
        start(number);
        for (int i = 0; i < 8; i++) {
            String text = wireText();
            if (random.nextInt(4) > 0) {
                text = spoil(text);
            }
            tell(text);
            call("fault", near(2));
            call("count", near(10));
        }
    }

    private String spoil(String text) {
        int at = random.nextInt(text.length() + 1);
        int to = Math.min(text.length(), at + random.nextInt(4));
        switch (random.nextInt(7)) {
            case 0:
                return text.substring(0, at);
            case 1:
                return text.substring(0, at) + text.substring(to);
            case 2:
                return text.substring(0, at) + (char) random.nextInt(256) + text.substring(at);
            case 3:
                return text.substring(0, at) + " " + WORDS[random.nextInt(WORDS.length)] + " " + text.substring(at);
            case 4:
                return text.replaceFirst("[0-9]+", "" + random.nextInt(70));
            case 5:
                return text + " span 1 leak 1; span 1 leak 1 needs 0; span 2 leak 3;";
            default:
                return text + "wet 1; wet 2;wet 3;wet 3 ;wet 1;";
        }
    }

    private void tell(String text) throws Exception {
        call("end", 0);
        byte[] all = text.getBytes(StandardCharsets.ISO_8859_1);
        byte[] bytes = Arrays.copyOf(all, (all.length + 19) / 20 * 20);
        for (int i = 0; i < bytes.length; i += 20) {
            long[] five = new long[5];
            for (int k = 0; k < 20; k++) {
                five[k / 4] = (int) (five[k / 4] << 8 | bytes[i + k] & 255);
            }
            call("feed", five);
        }
        call("end", all.length);
        call("wire");
        call("fault", 0);
        call("fault", 1);
    }

    private String gap() {
        return new String[] {" ", " ", " ", "\n", "  "}[random.nextInt(5)];
    }

    private String wireText() {
        StringBuilder text = new StringBuilder();
        int days = 1 + random.nextInt(random.nextInt(4) == 0 ? 13 : 5);
        int odds = random.nextInt(5) == 0 ? random.nextInt(2) * 10 : random.nextInt(11);
        text.append("wire days ").append(days).append(gap()).append("law ").append(random.nextInt(4));
        text.append(" odds ").append(odds).append(" volts").append(gap()).append(1 + random.nextInt(60)).append(";");
        int spans = random.nextInt(6);
        int wets = random.nextInt(9);
        for (int i = 0; i < spans + wets; i++) {
            if (i < spans) {
                text.append(gap()).append("span ").append(1 + random.nextInt(random.nextBoolean() ? 3 : 12));
                text.append(" leak ").append(1 + random.nextInt(30));
                if (random.nextInt(5) > 0) {
                    text.append(gap()).append("needs ").append(random.nextInt(random.nextInt(4) == 0 ? 61 : 25));
                }
            } else {
                text.append(gap()).append("wet ").append(random.nextInt(days + 2) % 14);
            }
            text.append(";");
        }
        return text.toString();
    }

    /** 0 .. n - 1 mostly, else a little beyond, or far. */
    private int near(int n) {
        int odd = random.nextInt(40);
        if (odd == 0) {
            return new int[] {Integer.MIN_VALUE, Integer.MAX_VALUE, -1, n, n + 1, 31, 32}[random.nextInt(7)];
        }
        return n > 0 ? random.nextInt(n) : 0;
    }

    private int poles() {
        return answers.o.w == null ? 2 : answers.o.w.spans.size();
    }

    private int day() {
        return near(answers.o.w == null ? 3 : answers.o.w.days + 1);
    }

    private long[] drawArguments(String name) {
        switch (name) {
            case "fault":
            case "image":
            case "back":
                return new long[] {near(2)};
            case "span":
                return new long[] {near(poles()), near(3)};
            case "leak":
            case "whole":
            case "damp":
            case "margin":
            case "cupped":
                return new long[] {near(poles()), day()};
            case "volts":
            case "falls":
            case "earth":
                return new long[] {near(poles()), day(), near(2)};
            case "chance":
                return new long[] {near(poles()), random.nextInt(3) > 0 ? Math.min(4, day()) : day(), near(2)};
            case "mean":
                return new long[] {random.nextInt(3) > 0 ? Math.min(4, day()) : day(), near(2)};
            case "ohms":
            case "amps":
                return new long[] {day(), near(2)};
            case "when":
            case "deaf":
            case "longest":
            case "flips":
            case "rises":
            case "without":
            case "snapped":
                return new long[] {near(poles())};
            case "both":
            case "apart":
            case "rests":
                return new long[] {near(poles()), near(poles())};
            case "gets":
                return new long[] {near(poles()), near(poles()), near(2), near(2)};
            case "fits":
            case "low":
            case "high":
            case "ask":
            case "leaves":
                return new long[] {near(4), near(poles())};
            case "spots":
            case "breaks":
            case "laws":
            case "by":
                return new long[] {near(4)};
            case "worth":
                return new long[] {near(1 << poles())};
            case "share":
                return new long[] {near(poles()), near(2)};
            case "rate":
                return new long[] {near(poles()), near(61)};
            case "drawn":
                return new long[] {seed(), near(2)};
            case "luck":
                return new long[] {seed(), near(20) + 1, near(poles())};
            case "count":
                return new long[] {near(10)};
            case "paste":
                return new long[] {near(4), near(5), near(4), near(5), near(5)};
            default:
                return face.get(name).getParameterCount() == 1 ? new long[] {day()} : new long[0];
        }
    }

    private int seed() {
        int[] edges = {0, 1, 5, 2000000000, 2000000001, -1, 1999999999};
        return random.nextInt(4) == 0 ? edges[random.nextInt(edges.length)] : random.nextInt(2000000001);
    }

    /** A row of what would be read if one thing were otherwise, so that some of it fits. */
    private void seenRow() throws Exception {
        Oracle o = answers.o;
        int slot = near(4);
        if (o.w == null || random.nextInt(8) == 0) {
            call("row", slot, near(4), near(61));
            call("write", slot, near(6), random.nextLong() >> random.nextInt(64));
            return;
        }
        Oracle.If f = new Oracle.If();
        int pole = Math.max(0, random.nextInt(Math.max(1, o.w.spans.size())));
        switch (random.nextInt(5)) {
            case 0:
                f = Oracle.broken(pole);
                break;
            case 1:
                f = Oracle.law(random.nextInt(4));
                break;
            case 2:
                break;
            default:
                f = Oracle.leaks(pole, 1 + random.nextInt(30));
        }
        int n = random.nextInt(4);
        call("row", slot, 1 + random.nextInt(3), 3 * n + (random.nextInt(20) == 0 ? 1 : 0));
        for (int i = 0; i < n; i++) {
            int d = random.nextInt(o.w.days + 1);
            long[] reads = o.reads(f, d);
            call("write", slot, 3 * i, random.nextInt(30) == 0 ? near(15) : d);
            call("write", slot, 3 * i + 1, reads[0] + (random.nextInt(30) == 0 ? 1 : 0));
            call("write", slot, 3 * i + 2, reads[1]);
        }
        String[] asks = {"fits", "low", "high", "ask", "leaves"};
        call(asks[random.nextInt(5)], slot, pole);
        call(new String[] {"spots", "breaks", "laws"}[random.nextInt(3)], slot);
    }
}
