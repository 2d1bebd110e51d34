import java.math.BigInteger;
import java.util.ArrayList;
import java.util.Arrays;
import java.util.HashMap;
import java.util.HashSet;
import java.util.List;
import java.util.Map;
import java.util.Set;
import java.util.regex.Matcher;
import java.util.regex.Pattern;

/**
 * The document told a second time, slowly and with the whole Java library: volts by solving the
 * equations of all poles, shares by going through all orders. It is what LeakyLine is held against.
 */
final class Oracle {
    static final int NONE = -1;

    /** A fraction of any size, in lowest terms. */
    record Q(BigInteger above, BigInteger below) implements Comparable<Q> {
        static final Q ZERO = of(0, 1);

        static Q of(long above, long below) {
            return of(BigInteger.valueOf(above), BigInteger.valueOf(below));
        }

        static Q of(BigInteger above, BigInteger below) {
            BigInteger g = above.gcd(below);
            if (below.signum() < 0) {
                g = g.negate();
            }
            return new Q(above.divide(g), below.divide(g));
        }

        Q plus(Q o) {
            return of(above.multiply(o.below).add(o.above.multiply(below)), below.multiply(o.below));
        }

        Q minus(Q o) {
            return plus(new Q(o.above.negate(), o.below));
        }

        Q times(Q o) {
            return of(above.multiply(o.above), below.multiply(o.below));
        }

        Q by(Q o) {
            return of(above.multiply(o.below), below.multiply(o.above));
        }

        public int compareTo(Q o) {
            return above.multiply(o.below).compareTo(o.above.multiply(below));
        }

        int whole() {
            return above.divide(below).intValueExact();
        }

        long part(int what) {
            return (what == 0 ? above : below).longValueExact();
        }
    }

    record Act(boolean cup, int place, int day) {
    }

    /** A WIRE and its acts. */
    static final class Wire {
        int lines;
        int days;
        int law;
        int odds;
        int volts;
        List<Integer> wetLines = new ArrayList<>();
        List<int[]> spans = new ArrayList<>();
        List<Act> acts = new ArrayList<>();

        Wire copy() {
            Wire w = new Wire();
            w.lines = lines;
            w.days = days;
            w.law = law;
            w.odds = odds;
            w.volts = volts;
            w.wetLines = new ArrayList<>(wetLines);
            for (int[] s : spans) {
                w.spans.add(s.clone());
            }
            w.acts = new ArrayList<>(acts);
            return w;
        }
    }

    /** What is otherwise. */
    static final class If {
        Integer law;
        Set<Integer> wet;
        int cups;
        int broken = NONE;
        int thin = NONE;
        int pole = NONE;
        int leak;
        Integer volts;
    }

    Wire w = null;
    byte[] tape = new byte[0];
    int fault = 0;
    int place = NONE;
    final Wire[] images = new Wire[3];
    final boolean[] imaged = new boolean[3];
    final long[][] rows = new long[4][];
    final int[] widths = new int[4];

    // ---- the tape ----

    int feed(int... fours) {
        if (tape.length + 20 > 500) {
            return NONE;
        }
        byte[] more = Arrays.copyOf(tape, tape.length + 20);
        for (int i = 0; i < 20; i++) {
            more[tape.length + i] = (byte) (fours[i / 4] >>> (24 - 8 * (i % 4)));
        }
        tape = more;
        return tape.length;
    }

    int end(int n) {
        if (n < 0 || n > tape.length) {
            return NONE;
        }
        tape = Arrays.copyOf(tape, n);
        return n;
    }

    private record Token(String text, int place) {
    }

    private List<Token> tokens() {
        String text = new String(tape, java.nio.charset.StandardCharsets.ISO_8859_1);
        Matcher m = Pattern.compile("[a-z]+|[0-9]+|[^ \n]", Pattern.DOTALL).matcher(text);
        List<Token> all = new ArrayList<>();
        while (m.find()) {
            all.add(new Token(m.group(), m.start()));
        }
        all.add(new Token("", tape.length));
        return all;
    }

    private static final class Fault extends RuntimeException {
        final int kind;
        final int place;

        Fault(int kind, int place) {
            super(null, null, false, false);
            this.kind = kind;
            this.place = place;
        }
    }

    int wire() {
        try {
            Wire read = read(tokens());
            fault = 0;
            place = NONE;
            tape = new byte[0];
            w = read;
            return read == null ? 0 : read.lines;
        } catch (Fault f) {
            fault = f.kind;
            place = f.place;
            return -4;
        }
    }

    private static void word(Token t, String want) {
        if (!t.text.equals(want)) {
            throw new Fault(1, t.place);
        }
    }

    private static int number(Token t, int from, int to) {
        if (!t.text.matches("[0-9]+")) {
            throw new Fault(1, t.place);
        }
        BigInteger v = new BigInteger(t.text);
        if (v.compareTo(BigInteger.valueOf(from)) < 0 || v.compareTo(BigInteger.valueOf(to)) > 0) {
            throw new Fault(2, t.place);
        }
        return v.intValue();
    }

    private static Wire read(List<Token> all) {
        if (all.size() == 1) {
            return null;
        }
        Wire read = new Wire();
        int i = 0;
        word(all.get(i++), "wire");
        word(all.get(i++), "days");
        read.days = number(all.get(i++), 1, 13);
        word(all.get(i++), "law");
        read.law = number(all.get(i++), 0, 3);
        word(all.get(i++), "odds");
        read.odds = number(all.get(i++), 0, 10);
        word(all.get(i++), "volts");
        read.volts = number(all.get(i++), 1, 60);
        word(all.get(i++), ";");
        read.lines = 1;
        while (!all.get(i).text.isEmpty()) {
            Token first = all.get(i++);
            if (first.text.equals("span")) {
                if (read.spans.size() == 5) {
                    throw new Fault(3, first.place);
                }
                int ohms = number(all.get(i++), 1, 12);
                word(all.get(i++), "leak");
                int leak = number(all.get(i++), 1, 30);
                int needs = NONE;
                if (all.get(i).text.equals("needs")) {
                    i++;
                    needs = number(all.get(i++), 0, 60);
                }
                read.spans.add(new int[] {ohms, leak, needs});
            } else if (first.text.equals("wet")) {
                if (read.wetLines.size() == 8) {
                    throw new Fault(3, first.place);
                }
                read.wetLines.add(number(all.get(i++), 0, 13));
            } else {
                throw new Fault(1, first.place);
            }
            word(all.get(i++), ";");
            read.lines++;
        }
        return read;
    }

    // ---- what there is ----

    boolean day(int d) {
        return w != null && d >= 0 && d <= w.days;
    }

    boolean pole(int p) {
        return w != null && p >= 0 && p < w.spans.size();
    }

    boolean station(int p) {
        return pole(p) && w.spans.get(p)[2] != NONE;
    }

    Set<Integer> wetDays() {
        Set<Integer> all = new HashSet<>();
        for (int d : w.wetLines) {
            if (d <= w.days) {
                all.add(d);
            }
        }
        return all;
    }

    // ---- a day ----

    int latestCup(int p, int d) {
        int latest = NONE;
        for (Act a : w.acts) {
            if (a.cup && a.place == p && a.day <= d) {
                latest = Math.max(latest, a.day);
            }
        }
        return latest;
    }

    int firstSnap(int s) {
        int first = 99;
        for (Act a : w.acts) {
            if (!a.cup && a.place == s) {
                first = Math.min(first, a.day);
            }
        }
        return first == 99 ? NONE : first;
    }

    int leak(If f, int p, int d) {
        Set<Integer> wet = f.wet != null ? f.wet : wetDays();
        int law = f.law != null ? f.law : w.law;
        int ground = f.pole == p ? f.leak : w.spans.get(p)[1];
        int cup = latestCup(p, d);
        if ((f.cups >> p & 1) == 1) {
            cup = Math.max(cup, 0);
        }
        if (cup != NONE) {
            ground = 30;
        }
        if (law == 1 && wet.contains(d) || law == 2 && (wet.contains(d) || wet.contains(d - 1))) {
            ground = ground / 2;
        }
        if (law == 3) {
            for (int e = Math.max(cup, 0); e <= d; e++) {
                if (wet.contains(e)) {
                    ground--;
                }
            }
        }
        return ground < 1 ? 1 : ground;
    }

    int lead(If f, int d) {
        int n = 0;
        while (n < w.spans.size()) {
            int snap = firstSnap(n);
            if (f.broken == n || snap != NONE && snap <= d) {
                break;
            }
            n++;
        }
        return n;
    }

    private int ohmsOf(If f, int s) {
        return f.thin == s ? 1 : w.spans.get(s)[0];
    }

    /** VOLTS at all POLES, from the equations of those that are led to. */
    Q[] volts(If f, int d) {
        int n = lead(f, d);
        Q battery = Q.of(f.volts != null ? f.volts : w.volts, 1);
        Q[][] m = new Q[n][n + 1];
        for (int k = 0; k < n; k++) {
            Arrays.fill(m[k], Q.ZERO);
            Q ahead = Q.of(1, ohmsOf(f, k));
            m[k][k] = m[k][k].plus(ahead).plus(Q.of(1, leak(f, k, d)));
            if (k == 0) {
                m[k][n] = battery.times(ahead);
            } else {
                m[k][k - 1] = Q.ZERO.minus(ahead);
            }
            if (k + 1 < n) {
                Q next = Q.of(1, ohmsOf(f, k + 1));
                m[k][k] = m[k][k].plus(next);
                m[k][k + 1] = Q.ZERO.minus(next);
            }
        }
        for (int c = 0; c < n; c++) {
            for (int r = 0; r < n; r++) {
                if (r != c) {
                    Q share = m[r][c].by(m[c][c]);
                    for (int k = 0; k <= n; k++) {
                        m[r][k] = m[r][k].minus(share.times(m[c][k]));
                    }
                }
            }
        }
        Q[] all = new Q[w.spans.size()];
        for (int k = 0; k < all.length; k++) {
            all[k] = k < n ? m[k][n].by(m[k][k]) : Q.ZERO;
        }
        return all;
    }

    Q fall(If f, int s, int d) {
        if (s >= lead(f, d)) {
            return Q.ZERO;
        }
        Q[] v = volts(f, d);
        return (s == 0 ? Q.of(f.volts != null ? f.volts : w.volts, 1) : v[s - 1]).minus(v[s]);
    }

    Q amps(If f, int d) {
        return lead(f, d) == 0 ? Q.ZERO : fall(f, 0, d).by(Q.of(ohmsOf(f, 0), 1));
    }

    /** READS, above and below. */
    long[] reads(If f, int d) {
        if (lead(f, d) == 0) {
            return new long[] {1, 0};
        }
        Q r = Q.of(w.volts, 1).by(amps(f, d));
        return new long[] {r.part(0), r.part(1)};
    }

    int hears(If f, int d) {
        Q[] v = volts(f, d);
        int bits = 0;
        for (int p = 0; p < v.length; p++) {
            if (station(p) && v[p].compareTo(Q.of(w.spans.get(p)[2], 1)) >= 0) {
                bits |= 1 << p;
            }
        }
        return bits;
    }

    int stations() {
        int bits = 0;
        for (int p = 0; p < w.spans.size(); p++) {
            if (station(p)) {
                bits |= 1 << p;
            }
        }
        return bits;
    }

    int sum(If f) {
        int n = 0;
        for (int d = 0; d <= w.days; d++) {
            n += Integer.bitCount(hears(f, d));
        }
        return n;
    }

    int battery(int d) {
        for (int v = 1; v <= 200; v++) {
            If f = new If();
            f.volts = v;
            if (hears(f, d) == stations()) {
                return v;
            }
        }
        return NONE;
    }

    int cures(int d) {
        for (int n = 0; n <= w.spans.size(); n++) {
            for (int set = 0; set < 1 << w.spans.size(); set++) {
                if (Integer.bitCount(set) == n && hears(cups(set), d) == stations()) {
                    return set;
                }
            }
        }
        return NONE;
    }

    static If cups(int set) {
        If f = new If();
        f.cups = set;
        return f;
    }

    static If law(int law) {
        If f = new If();
        f.law = law;
        return f;
    }

    static If broken(int span) {
        If f = new If();
        f.broken = span;
        return f;
    }

    static If thin(int span) {
        If f = new If();
        f.thin = span;
        return f;
    }

    static If leaks(int pole, int leak) {
        If f = new If();
        f.pole = pole;
        f.leak = leak;
        return f;
    }

    static If wet(int bits) {
        If f = new If();
        f.wet = new HashSet<>();
        for (int d = 0; d < 14; d++) {
            if ((bits >> d & 1) == 1) {
                f.wet.add(d);
            }
        }
        return f;
    }

    // ---- what was read ----

    int refusal(int slot, boolean thing) {
        if (w == null || slot < 0 || slot > 3 || !thing) {
            return -2;
        }
        if (rows[slot] == null) {
            return -6;
        }
        long[] r = rows[slot];
        if (r.length % 3 != 0) {
            return -2;
        }
        for (int i = 0; i < r.length; i += 3) {
            if (r[i] < 0 || r[i] > w.days || r[i + 1] < 0 || r[i + 2] < 0) {
                return -2;
            }
        }
        return 0;
    }

    boolean seen(If f, int slot) {
        long[] r = rows[slot];
        for (int i = 0; i < r.length; i += 3) {
            if (!Arrays.equals(reads(f, (int) r[i]), new long[] {r[i + 1], r[i + 2]})) {
                return false;
            }
        }
        return true;
    }

    List<Integer> fitting(int slot, int p) {
        List<Integer> all = new ArrayList<>();
        for (int leak = 1; leak <= 30; leak++) {
            if (seen(leaks(p, leak), slot)) {
                all.add(leak);
            }
        }
        return all;
    }

    /** The DAY to ask and how many it leaves. */
    int[] ask(int slot, int p) {
        List<Integer> fitting = fitting(slot, p);
        int[] found = {NONE, fitting.size()};
        for (int d = 0; d <= w.days; d++) {
            Map<String, Integer> groups = new HashMap<>();
            int worst = 0;
            for (int leak : fitting) {
                worst = Math.max(worst, groups.merge(Arrays.toString(reads(leaks(p, leak), d)), 1, Integer::sum));
            }
            if (worst < found[1]) {
                found = new int[] {d, worst};
            }
        }
        return found;
    }

    // ---- shares, game, chance ----

    Q share(int p) {
        List<List<Integer>> orders = new ArrayList<>();
        orders(new ArrayList<>(), orders);
        Map<Integer, Integer> worth = new HashMap<>();
        for (int set = 0; set < 1 << w.spans.size(); set++) {
            worth.put(set, sum(cups(set)));
        }
        Q all = Q.ZERO;
        for (List<Integer> order : orders) {
            int set = 0;
            for (int q : order) {
                if (q == p) {
                    all = all.plus(Q.of(worth.get(set | 1 << q) - worth.get(set), 1));
                }
                set |= 1 << q;
            }
        }
        return all.by(Q.of(orders.size(), 1));
    }

    private void orders(List<Integer> ahead, List<List<Integer>> into) {
        if (ahead.size() == w.spans.size()) {
            into.add(new ArrayList<>(ahead));
            return;
        }
        for (int p = 0; p < w.spans.size(); p++) {
            if (!ahead.contains(p)) {
                ahead.add(p);
                orders(ahead, into);
                ahead.remove(ahead.size() - 1);
            }
        }
    }

    int gets(int p, int set) {
        int n = 0;
        for (int d = 0; d <= w.days; d++) {
            n += hears(cups(set), d) >> p & 1;
        }
        return (set >> p & 1) == 1 ? n - 2 : n;
    }

    /** The mean of how many of some STATIONS hear. */
    Q mean(int d, int which) {
        Q all = Q.ZERO;
        for (int wet = 0; wet < 1 << (d + 1); wet++) {
            Q chance = Q.of(1, 1);
            for (int e = 0; e <= d; e++) {
                chance = chance.times(Q.of((wet >> e & 1) == 1 ? w.odds : 10 - w.odds, 10));
            }
            if (chance.above.signum() != 0) {
                all = all.plus(chance.times(Q.of(Integer.bitCount(hears(wet(wet), d) & which), 1)));
            }
        }
        return all;
    }

    int drawn(int seed) {
        BigInteger x = BigInteger.valueOf(seed);
        int wet = 0;
        for (int d = 0; d <= w.days; d++) {
            x = x.multiply(BigInteger.valueOf(1103515245)).add(BigInteger.valueOf(12345))
                    .mod(BigInteger.valueOf(2147483648L));
            if (x.divide(BigInteger.valueOf(65536)).mod(BigInteger.TEN).intValue() < w.odds) {
                wet |= 1 << d;
            }
        }
        return wet;
    }
}
