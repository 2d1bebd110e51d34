import java.util.function.IntToLongFunction;
import java.util.function.ToLongFunction;

/** What the tests of edges share. */
abstract class Edges {
    final Sentences s;

    Edges(Sentences s) {
        this.s = s;
    }

    abstract void all();

    void fraction(String call, long above, long below, long gotAbove, long gotBelow) {
        s.due(call + ", above", above, gotAbove);
        s.due(call + ", below", below, gotBelow);
    }

    /** Without a WIRE: none told yet, and none any more. */
    void noWire(String call, long refusal, ToLongFunction<LeakyLine> f) {
        s.due(call + ", none told", refusal, f.applyAsLong(new LeakyLine()));
        LeakyLine x = Check.told(Wires.LONG);
        s.holds(call + " of a WIRE is no refusal", f.applyAsLong(x) != refusal);
        x.end(0);
        x.wire();
        s.due(call + ", none any more", refusal, f.applyAsLong(x));
    }

    /** Of PLAIN: POLES (or SPANS) 0 and 1 are there. */
    void poles(String call, long refusal, IntToLongFunction f) {
        s.refusedBeyond(call, refusal, 0, 1, f);
    }

    /** Of PLAIN: DAYS 0 .. 4 are there. */
    void days(String call, IntToLongFunction f) {
        s.refusedBeyond(call, -2, 0, 4, f);
    }

    interface OfPole {
        long of(LeakyLine x, int pole);
    }

    /** Only POLES with a STATION are taken. */
    void stations(String call, OfPole f) {
        LeakyLine plain = Check.told(Wires.PLAIN);
        s.refusedBeyond(call, -2, 0, 1, pole -> f.of(plain, pole));
        LeakyLine some = Check.told(Wires.TWO_OF_THREE);
        s.holds(call + " of a STATION is no refusal", f.of(some, 1) != -2);
        s.due(call + " of a POLE without a STATION", -2, f.of(some, 2));
        s.due(call + " without STATIONS", -2, f.of(Check.told(Wires.NO_STATIONS), 0));
        s.due(call + " without POLES", -2, f.of(Check.told(Wires.NO_SPANS), 0));
        noWire(call, -2, x -> f.of(x, 0));
    }

    /** What is 0 or 1. */
    void parts(String call, long refusal, IntToLongFunction f) {
        s.refusedBeyond(call, refusal, 0, 1, f);
    }
}
