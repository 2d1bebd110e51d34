import java.util.ArrayList;
import java.util.List;
import java.util.function.IntPredicate;
import java.util.function.IntUnaryOperator;

/** Every call of the document's face, answered by the Oracle. */
final class Answers {
    private static final int NONE = -1;
    final Oracle o = new Oracle();
    private static final Oracle.If NOW = new Oracle.If();

    long answer(String name, long... a) {
        int[] i = new int[a.length];
        for (int k = 0; k < a.length; k++) {
            i[k] = (int) a[k];
        }
        Long found = ofTape(name, i);
        found = found != null ? found : ofDay(name, i);
        found = found != null ? found : ofStation(name, i);
        found = found != null ? found : ofWire(name, i);
        found = found != null ? found : ofSeen(name, i);
        found = found != null ? found : ofGames(name, i);
        found = found != null ? found : ofActs(name, i);
        found = found != null ? found : ofSlots(name, i, a);
        if (found == null) {
            throw new IllegalStateException(name);
        }
        return found;
    }

    private Long ofTape(String name, int[] i) {
        switch (name) {
            case "feed":
                return (long) o.feed(i);
            case "end":
                return (long) o.end(i[0]);
            case "wire":
                return (long) o.wire();
            case "fault":
                return (long) (i[0] == 0 ? o.fault : i[0] == 1 ? o.place : NONE);
            case "span":
                return o.pole(i[0]) && i[1] >= 0 && i[1] <= 2 ? o.w.spans.get(i[0])[i[1]] : -2L;
            case "count":
                return (long) count(i[0]);
            default:
                return null;
        }
    }

    private int count(int what) {
        Oracle.Wire w = o.w != null ? o.w : new Oracle.Wire();
        int rows = 0;
        for (long[] r : o.rows) {
            rows += r != null ? 1 : 0;
        }
        int[] all = {w.days, w.law, w.odds, w.volts, w.spans.size(), w.wetLines.size(), w.acts.size(), w.lines,
            o.tape.length, rows};
        return what >= 0 && what < all.length ? all[what] : NONE;
    }

    private static boolean part(int what) {
        return what == 0 || what == 1;
    }

    /** Calls of a DAY: the DAY and, of some, a POLE or a part. */
    private Long ofDay(String name, int[] i) {
        switch (name) {
            case "leak":
                return o.pole(i[0]) && o.day(i[1]) ? o.leak(NOW, i[0], i[1]) : -2L;
            case "joined":
                return o.day(i[0]) ? o.lead(NOW, i[0]) : -2L;
            case "ohms":
                return o.day(i[0]) && part(i[1]) ? o.reads(NOW, i[0])[i[1]] : -2L;
            case "amps":
                return o.day(i[0]) && part(i[1]) ? o.amps(NOW, i[0]).part(i[1]) : -2L;
            case "volts":
                return o.pole(i[0]) && o.day(i[1]) && part(i[2]) ? o.volts(NOW, i[1])[i[0]].part(i[2]) : -2L;
            case "whole":
                return o.pole(i[0]) && o.day(i[1]) ? o.volts(NOW, i[1])[i[0]].whole() : -2L;
            case "falls":
                return o.pole(i[0]) && o.day(i[1]) && part(i[2]) ? o.fall(NOW, i[0], i[1]).part(i[2]) : -2L;
            case "earth":
                return o.pole(i[0]) && o.day(i[1]) && part(i[2]) ? earth(i[0], i[1]).part(i[2]) : -2L;
            case "sore":
                return !o.day(i[0]) ? -2L
                        : first(o.lead(NOW, i[0]), p -> true, (p, q) -> earth(p, i[0]).compareTo(earth(q, i[0])));
            case "hears":
                return o.day(i[0]) ? o.hears(NOW, i[0]) : -2L;
            case "silent":
                return o.day(i[0]) ? o.stations() - o.hears(NOW, i[0]) : -2L;
            case "faint":
                return o.day(i[0]) ? faint(i[0]) : -2L;
            case "worst":
                return !o.day(i[0]) ? -2L
                        : first(poles(), p -> true, (p, q) -> o.leak(NOW, q, i[0]) - o.leak(NOW, p, i[0]));
            case "damp":
                return o.pole(i[0]) && o.day(i[1])
                        ? o.leak(Oracle.wet(0), i[0], i[1]) - o.leak(NOW, i[0], i[1]) : -2L;
            case "margin":
                return o.station(i[0]) && o.day(i[1]) ? margin(i[0], i[1]) : -2L;
            case "ends":
                return o.day(i[0]) ? o.lead(NOW, i[0]) - 1 : -2L;
            case "reach":
                return o.day(i[0]) ? last(5, p -> (o.hears(NOW, i[0]) >> p & 1) == 1) : -2L;
            case "half":
                return o.day(i[0]) ? firstOf(poles(),
                        p -> o.volts(NOW, i[0])[p].times(Oracle.Q.of(2, 1)).compareTo(Oracle.Q.of(o.w.volts, 1)) <= 0)
                        : -2L;
            case "grounds":
                return o.day(i[0]) ? total(poles(), p -> o.leak(NOW, p, i[0])) : -2L;
            case "steep":
                return !o.day(i[0]) ? -2L : first(o.lead(NOW, i[0]), p -> true,
                        (p, q) -> o.fall(NOW, p, i[0]).compareTo(o.fall(NOW, q, i[0])));
            case "lack":
                return o.day(i[0]) ? lack(i[0]) : -2L;
            case "loud":
                return !o.day(i[0]) ? -2L : first(poles(), o::station,
                        (p, q) -> o.volts(NOW, i[0])[p].compareTo(o.volts(NOW, i[0])[q]));
            case "battery":
                return o.day(i[0]) ? o.battery(i[0]) : -2L;
            case "cure":
                return !o.day(i[0]) ? -2L : o.cures(i[0]) == NONE ? NONE : (long) Integer.bitCount(o.cures(i[0]));
            case "cures":
                return o.day(i[0]) ? o.cures(i[0]) : -2L;
            default:
                return null;
        }
    }

    interface Order {
        int of(int p, int q);
    }

    /** The first of the greatest by an order. */
    private static int first(int n, IntPredicate counts, Order order) {
        int found = NONE;
        for (int p = 0; p < n; p++) {
            if (counts.test(p) && (found == NONE || order.of(p, found) > 0)) {
                found = p;
            }
        }
        return found;
    }

    private static int firstOf(int n, IntPredicate counts) {
        for (int p = 0; p < n; p++) {
            if (counts.test(p)) {
                return p;
            }
        }
        return NONE;
    }

    private static int last(int n, IntPredicate counts) {
        for (int p = n - 1; p >= 0; p--) {
            if (counts.test(p)) {
                return p;
            }
        }
        return NONE;
    }

    private static int total(int n, IntUnaryOperator of) {
        int all = 0;
        for (int p = 0; p < n; p++) {
            all += of.applyAsInt(p);
        }
        return all;
    }

    private static int bits(int n, IntPredicate counts) {
        return total(n, p -> counts.test(p) ? 1 << p : 0);
    }

    private static int most(int n, IntPredicate counts) {
        int most = 0;
        for (int from = 0; from < n; from++) {
            int to = from;
            while (to < n && counts.test(to)) {
                to++;
            }
            most = Math.max(most, to - from);
        }
        return most;
    }

    private int poles() {
        return o.w.spans.size();
    }

    private int days() {
        return o.w.days + 1;
    }

    private Oracle.Q earth(int p, int d) {
        return o.volts(NOW, d)[p].by(Oracle.Q.of(o.leak(NOW, p, d), 1));
    }

    private int faint(int d) {
        int found = NONE;
        Oracle.Q[] v = o.volts(NOW, d);
        for (int p = 0; p < poles(); p++) {
            if (o.station(p) && (found == NONE || v[p].compareTo(v[found]) <= 0)) {
                found = p;
            }
        }
        return found;
    }

    private int margin(int p, int d) {
        Oracle.Q more = o.volts(NOW, d)[p].minus(Oracle.Q.of(o.w.spans.get(p)[2], 1));
        return more.compareTo(Oracle.Q.ZERO) <= 0 ? 0 : more.whole();
    }

    private int lack(int d) {
        int deaf = o.stations() - o.hears(NOW, d);
        return total(poles(), p -> (deaf >> p & 1) == 0 ? 0 : o.w.spans.get(p)[2] - o.volts(NOW, d)[p].whole());
    }

    private boolean hearsOn(int p, int d) {
        return (o.hears(NOW, d) >> p & 1) == 1;
    }

    private Long ofStation(String name, int[] i) {
        switch (name) {
            case "when":
                return o.station(i[0]) ? firstOf(days(), d -> !hearsOn(i[0], d)) : -2L;
            case "deaf":
                return o.station(i[0]) ? total(days(), d -> hearsOn(i[0], d) ? 0 : 1) : -2L;
            case "longest":
                return o.station(i[0]) ? most(days(), d -> hearsOn(i[0], d)) : -2L;
            case "flips":
                return o.station(i[0])
                        ? total(days(), d -> d > 0 && hearsOn(i[0], d) != hearsOn(i[0], d - 1) ? 1 : 0) : -2L;
            case "rises":
                return o.pole(i[0]) ? total(days(),
                        d -> d > 0 && o.leak(NOW, i[0], d) > o.leak(NOW, i[0], d - 1) ? 1 : 0) : -2L;
            case "both":
                return o.station(i[0]) && o.station(i[1])
                        ? total(days(), d -> hearsOn(i[0], d) && hearsOn(i[1], d) ? 1 : 0) : -2L;
            case "apart":
                return o.station(i[0]) && o.station(i[1])
                        ? total(days(), d -> hearsOn(i[0], d) != hearsOn(i[1], d) ? 1 : 0) : -2L;
            case "without":
                return o.pole(i[0]) ? o.sum(Oracle.broken(i[0])) : -2L;
            case "cupped":
                return o.pole(i[0]) && o.day(i[1]) ? o.latestCup(i[0], i[1]) : -2L;
            case "snapped":
                return o.pole(i[0]) ? o.firstSnap(i[0]) : -2L;
            default:
                return null;
        }
    }

    private int heardOn(int d) {
        return Integer.bitCount(o.hears(NOW, d));
    }

    private boolean isClear(int d) {
        return o.hears(NOW, d) == o.stations();
    }

    private int daysOf(int p) {
        return total(days(), d -> hearsOn(p, d) ? 1 : 0);
    }

    private Long ofWire(String name, int[] i) {
        switch (name) {
            case "by":
                return o.w != null && i[0] >= 0 && i[0] <= 3 ? o.sum(Oracle.law(i[0])) : -2L;
            case "worth":
                return o.w != null && i[0] >= 0 && i[0] < 1 << poles() ? o.sum(Oracle.cups(i[0])) : -2L;
            default:
                if (!"stations wets clear last dim sum spell bright dry mute changes all weakest strong batteries best thick law"
                        .matches("(.* )?" + name + "( .*)?")) {
                    return null;
                }
                return o.w == null ? -2L : ofWholeWire(name);
        }
    }

    private long ofWholeWire(String name) {
        switch (name) {
            case "stations":
                return o.stations();
            case "wets":
                return bits(days(), d -> o.wetDays().contains(d));
            case "clear":
                return bits(days(), this::isClear);
            case "last":
                return last(days(), this::isClear);
            case "dim":
                return first(days(), d -> true, (d, e) -> heardOn(e) - heardOn(d));
            case "sum":
                return o.sum(NOW);
            case "spell":
                return most(days(), d -> o.wetDays().contains(d));
            case "bright":
                return first(days(), d -> true, (d, e) -> heardOn(d) - heardOn(e));
            case "dry":
                return most(days(), d -> !o.wetDays().contains(d));
            case "mute":
                return bits(days(), d -> heardOn(d) == 0);
            case "changes":
                return total(days(), d -> d > 0 && o.hears(NOW, d) != o.hears(NOW, d - 1) ? 1 : 0);
            case "all":
                return o.sum(Oracle.cups((1 << poles()) - 1));
            case "weakest":
                return first(poles(), o::station, (p, q) -> daysOf(q) - daysOf(p));
            case "strong":
                return first(poles(), o::station, (p, q) -> daysOf(p) - daysOf(q));
            case "batteries":
                return batteries();
            case "best":
                return better(p -> o.sum(Oracle.cups(1 << p)));
            case "thick":
                return better(p -> o.sum(Oracle.thin(p)));
            default:
                return first(4, l -> true, (l, m) -> o.sum(Oracle.law(l)) - o.sum(Oracle.law(m)));
        }
    }

    private int batteries() {
        int most = 1;
        for (int d = 0; d < days(); d++) {
            int of = o.battery(d);
            if (of == NONE) {
                return NONE;
            }
            most = Math.max(most, of);
        }
        return most;
    }

    private int better(IntUnaryOperator then) {
        int now = o.sum(NOW);
        return first(poles(), p -> then.applyAsInt(p) > now, (p, q) -> then.applyAsInt(p) - then.applyAsInt(q));
    }

    private Long ofSeen(String name, int[] i) {
        boolean ofPole = List.of("fits", "low", "high", "ask", "leaves").contains(name);
        if (!ofPole && !List.of("spots", "breaks", "laws").contains(name)) {
            return null;
        }
        int refusal = o.refusal(i[0], !ofPole || o.pole(i[1]));
        if (refusal != 0) {
            return (long) refusal;
        }
        List<Integer> fitting = ofPole ? o.fitting(i[0], i[1]) : new ArrayList<>();
        int n = fitting.size();
        switch (name) {
            case "fits":
                return (long) n;
            case "low":
                return n == 0 ? NONE : (long) fitting.get(0);
            case "high":
                return n == 0 ? NONE : (long) fitting.get(n - 1);
            case "ask":
                return (long) o.ask(i[0], i[1])[0];
            case "leaves":
                return (long) o.ask(i[0], i[1])[1];
            case "spots":
                return (long) bits(poles(), p -> o.fitting(i[0], p).stream().anyMatch(l -> l != o.w.spans.get(p)[1]));
            case "breaks":
                return (long) bits(poles(), s -> o.seen(Oracle.broken(s), i[0]));
            default:
                return (long) bits(4, l -> o.seen(Oracle.law(l), i[0]));
        }
    }

    private Long ofGames(String name, int[] i) {
        boolean two = i.length >= 2 && o.pole(i[0]) && o.pole(i[1]) && i[0] != i[1];
        switch (name) {
            case "share":
                return o.pole(i[0]) && part(i[1]) ? o.share(i[0]).part(i[1]) : -1000000L;
            case "rests":
                return two ? bits(4, pair -> isRest(i[0], i[1], pair)) : -2L;
            case "gets":
                return two && part(i[2]) && part(i[3]) ? o.gets(i[0], i[2] << i[0] | i[3] << i[1]) : -1000L;
            case "chance":
                return o.station(i[0]) && o.day(i[1]) && i[1] <= 7 && part(i[2])
                        ? o.mean(i[1], 1 << i[0]).part(i[2]) : -2L;
            case "mean":
                return o.day(i[0]) && i[0] <= 7 && part(i[1]) ? o.mean(i[0], 31).part(i[1]) : -2L;
            case "drawn":
                return o.w != null && seed(i[0]) && part(i[1]) ? drawn(i[0], i[1]) : -2L;
            case "luck":
                return o.station(i[2]) && seed(i[0]) && i[1] >= 1 && i[1] <= 20
                        ? total(i[1], k -> (drawn(i[0] + k, 1) >> i[2]) % 2) : -2L;
            default:
                return null;
        }
    }

    private static boolean seed(int seed) {
        return seed >= 0 && seed <= 2000000000;
    }

    private int drawn(int seed, int what) {
        int wet = o.drawn(seed);
        return what == 0 ? wet : o.hears(Oracle.wet(wet), o.w.days);
    }

    private boolean isRest(int p, int q, int pair) {
        int a = pair % 2;
        int b = pair / 2;
        return o.gets(p, a << p | b << q) >= o.gets(p, (1 - a) << p | b << q)
                && o.gets(q, a << p | b << q) >= o.gets(q, a << p | (1 - b) << q);
    }

    private Long ofActs(String name, int[] i) {
        switch (name) {
            case "cups":
            case "snaps":
                return (long) act(name.equals("cups"), i[0], i[1]);
            case "undo":
                if (o.w == null) {
                    return -2L;
                }
                if (o.w.acts.isEmpty()) {
                    return -5L;
                }
                o.w.acts.remove(o.w.acts.size() - 1);
                return (long) o.w.acts.size();
            case "anew":
                if (o.w == null) {
                    return -2L;
                }
                int were = o.w.acts.size();
                o.w.acts.clear();
                return (long) were;
            case "rate":
                if (!o.station(i[0]) || i[1] < 0 || i[1] > 60) {
                    return -2L;
                }
                if (!o.w.acts.isEmpty()) {
                    return -5L;
                }
                int needed = o.w.spans.get(i[0])[2];
                o.w.spans.get(i[0])[2] = i[1];
                return (long) needed;
            case "image":
                if (i[0] < 0 || i[0] > 2) {
                    return -2L;
                }
                o.images[i[0]] = o.w == null ? null : o.w.copy();
                o.imaged[i[0]] = true;
                return 0L;
            case "back":
                if (i[0] < 0 || i[0] > 2) {
                    return -2L;
                }
                if (!o.imaged[i[0]]) {
                    return -6L;
                }
                o.w = o.images[i[0]] == null ? null : o.images[i[0]].copy();
                return 0L;
            default:
                return null;
        }
    }

    private int act(boolean cup, int place, int day) {
        if (!o.pole(place) || !o.day(day)) {
            return -2;
        }
        if (o.w.acts.size() == 30) {
            return -5;
        }
        o.w.acts.add(new Oracle.Act(cup, place, day));
        return cup ? o.leak(NOW, place, o.w.days) : o.lead(NOW, o.w.days);
    }

    private Long ofSlots(String name, int[] i, long[] a) {
        boolean slot = i.length > 0 && i[0] >= 0 && i[0] <= 3;
        switch (name) {
            case "row":
                if (!slot || i[1] < 0 || i[1] > 3 || i[2] > 60) {
                    return -2L;
                }
                if (i[2] < 0) {
                    return -3L;
                }
                o.rows[i[0]] = new long[i[2]];
                o.widths[i[0]] = i[1];
                return 0L;
            case "write":
                if (!slot) {
                    return -2L;
                }
                if (o.rows[i[0]] == null) {
                    return -6L;
                }
                if (i[1] < 0 || i[1] >= o.rows[i[0]].length) {
                    return -7L;
                }
                int drop = 64 - (8 << o.widths[i[0]]);
                o.rows[i[0]][i[1]] = a[2] << drop >> drop;
                return 0L;
            case "paste":
                return slot ? paste(i) : -2L;
            default:
                return null;
        }
    }

    private long paste(int[] i) {
        if (i[2] < 0 || i[2] > 3) {
            return -2;
        }
        if (o.rows[i[0]] == null || o.rows[i[2]] == null) {
            return -6;
        }
        if (o.widths[i[0]] != o.widths[i[2]]) {
            return -8;
        }
        boolean fits = i[1] >= 0 && i[3] >= 0 && i[4] >= 0
                && (long) i[1] + i[4] <= o.rows[i[0]].length && (long) i[3] + i[4] <= o.rows[i[2]].length;
        if (!fits) {
            return -7;
        }
        long[] were = o.rows[i[0]].clone();
        for (int k = 0; k < i[4]; k++) {
            o.rows[i[2]][i[3] + k] = were[i[1] + k];
        }
        return 0;
    }
}
