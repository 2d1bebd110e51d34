import java.util.ArrayList;
import java.util.List;
import java.util.function.IntToLongFunction;

/** Each promise by answers worked out by hand from the document: ordinary ones, its edges, wrong inputs. */
public final class PromisesTest {
    /** 1 + (2 || (1 + 1)) ohms: it READS 2, 5 VOLTS at POLE 0, 5 / 2 at POLE 1, on every DAY. */
    private static final String PLAIN =
            "wire days 4 law 0 odds 5 volts 10; span 1 leak 2 needs 5; span 1 leak 1 needs 3;";
    private static final String NO_SPANS = "wire days 3 law 1 odds 5 volts 9; wet 2;";
    private static final String NO_STATIONS = "wire days 2 law 0 odds 5 volts 9; span 1 leak 2; span 2 leak 2;";

    private static final Check CHECK = new Check("PromisesTest");

    public static void main(String[] args) {
        tape();
        faults();
        told();
        leaks();
        currents();
        hearing();
        overDays();
        wetDays();
        pairsAndHalves();
        broken();
        stationsByDays();
        helps();
        seen();
        asked();
        spotsBreaksLaws();
        shares();
        games();
        chances();
        acts();
        draws();
        counts();
        images();
        slots();
        noWire();
        nothingLeftBehind();
        CHECK.close();
    }

    private static void due(int promise, String call, long want, long got) {
        CHECK.due("promise " + promise + ": " + call, want, got);
    }

    /** One POLE, LEAK 5, that HEARS (10 of 12 VOLTS) while nothing of its LEAK is lost; DAYS 1 and 2 are WET. */
    private static String wetWire(int law, int odds) {
        return "wire days 5 law " + law + " odds " + odds
                + " volts 12; span 1 leak 5 needs 10; wet 1; wet 2; wet 9;";
    }

    private static int word(String four) {
        return four.charAt(0) << 24 | four.charAt(1) << 16 | four.charAt(2) << 8 | four.charAt(3);
    }

    private static void tape() {
        LeakyLine x = new LeakyLine();
        due(1, "stations() of a new object", -2, x.stations());
        due(1, "count(7) of a new object", 0, x.count(7));
        due(1, "count(8) of a new object", 0, x.count(8));
        due(1, "count(9) of a new object", 0, x.count(9));
        due(2, "feed", 20, x.feed(word("wire"), word(" day"), word("s 1 "), word("law "), word("0 od")));
        due(2, "feed", 40, x.feed(word("ds 0"), word(" vol"), word("ts 6"), word("0;sp"), word("an 1")));
        due(3, "end(41) beyond the TAPE", -1, x.end(41));
        due(3, "end(-1)", -1, x.end(-1));
        due(3, "count(8) behind these", 40, x.count(8));
        due(3, "end(34)", 34, x.end(34));
        due(3, "end(35)", -1, x.end(35));
        due(4, "wire()", 1, x.wire());
        due(4, "count(8): the TAPE is empty", 0, x.count(8));
        due(4, "count(3): volts over a feed's edge", 60, x.count(3));
        for (int i = 1; i <= 25; i++) {
            due(2, "feed up to 500", 20 * i, x.feed(0x20202020, 0x0a0a0a0a, 0x20202020, 0x20202020, 0x20202020));
        }
        due(2, "feed beyond 500", -1, x.feed(1, 2, 3, 4, 5));
        due(2, "count(8)", 500, x.count(8));
        due(3, "end(500), all of it", 500, x.end(500));
        due(3, "end(481)", 481, x.end(481));
        due(2, "feed to 501", -1, x.feed(1, 2, 3, 4, 5));
        due(4, "wire() of blanks", 0, x.wire());
        due(4, "no WIRE then", -2, x.stations());
        for (int what = 0; what < 8; what++) {
            due(4, "count(" + what + ") then", 0, x.count(what));
        }
        due(3, "end(0) of an empty TAPE", 0, x.end(0));
    }

    private static void fault(String text, int kind, int place) {
        LeakyLine x = Check.told(PLAIN);
        x.cups(0, 1);
        int bytes = Check.tape(x, text);
        due(4, "wire() of '" + text + "'", -4, x.wire());
        due(5, "fault(0) of '" + text + "'", kind, x.fault(0));
        due(5, "fault(1) of '" + text + "'", place, x.fault(1));
        due(4, "the WIRE stays", 3, x.count(7));
        due(4, "its acts stay", 1, x.count(6));
        due(4, "the TAPE stays", bytes, x.count(8));
    }

    private static void faults() {
        LeakyLine x = new LeakyLine();
        due(5, "fault(0) ahead of any", 0, x.fault(0));
        due(5, "fault(1) ahead of any", -1, x.fault(1));
        String head = "wire days 3 law 0 odds 5 volts 9;";
        fault("wire days 0 law", 2, 10);
        fault("wire days 14", 2, 10);
        fault("wire days 3 law 4", 2, 16);
        fault("wire days 3 law 0 odds 11", 2, 23);
        fault("wire days 3 law 0 odds 5 volts 0", 2, 31);
        fault("wire days 3 law 0 odds 5 volts 61;", 2, 31);
        fault("wire days 99999999999999999999", 2, 10);
        fault("wire days 4294967297 law", 2, 10);
        fault("wire", 1, 4);
        fault("wire  ", 1, 6);
        fault("wired", 1, 0);
        fault("wires days", 1, 0);
        fault(";", 1, 0);
        fault("3", 1, 0);
        fault("span 1 leak 1;", 1, 0);
        fault(" wet 1;", 1, 1);
        fault("wire Days 3", 1, 5);
        fault("wire days -3", 1, 10);
        fault("wire days 3 law 0 odds 5 volts 9", 1, 32);
        fault("wire law 3", 1, 5);
        fault("wire days ;", 1, 10);
        fault("wire\tdays 3", 1, 4);
        fault(head + head, 1, 33);
        fault(head + ";", 1, 33);
        fault(head + "wet", 1, 36);
        fault(head + "wet;", 1, 36);
        fault(head + "wet 14", 2, 37);
        fault(head + "wet 1", 1, 38);
        fault(head + "wet 1 2;", 1, 39);
        fault(head + "span 0 leak 1;", 2, 38);
        fault(head + "span 13 leak 1;", 2, 38);
        fault(head + "span 1 leak 0;", 2, 45);
        fault(head + "span 1 leak 31;", 2, 45);
        fault(head + "span 1;", 1, 39);
        fault(head + "span 1 needs 4;", 1, 40);
        fault(head + "span 1 leak 1 needs 61;", 2, 53);
        fault(head + "span 1 leak 1 needs;", 1, 52);
        fault(head + "span 1 leak 1 leak 1;", 1, 47);
        fault(head + "span 1 leak 1", 1, 46);
        fault(head + "span 1 leak 1 needs 1", 1, 54);
        fault(head + "span 1 leak 1 needs 1 needs 1;", 1, 55);
        fault(head + "span 1 leak 1;".repeat(5) + "span 99", 3, 33 + 70);
        fault(head + "wet 1;".repeat(8) + "wet 99", 3, 33 + 48);
        fault(head + "wet 1;wet 99;" + "wet 1;".repeat(9), 2, 43);
        fault(head + (char) 200, 1, 33);
        fault(head + (char) 0, 1, 33);
        Check.tell(x, "wire days 0");
        due(5, "fault(2)", -1, x.fault(2));
        due(5, "fault(-1)", -1, x.fault(-1));
        due(4, "wire()", 3, Check.tell(x, PLAIN));
        due(5, "fault(0) behind a good one", 0, x.fault(0));
        due(5, "fault(1) behind a good one", -1, x.fault(1));
    }

    private static void told() {
        LeakyLine x = new LeakyLine();
        due(4, "words and numbers without blanks", 3, Check.tell(x,
                "wire days013law3odds10volts60;span12leak30needs60;\n\nwet13 ; "));
        due(82, "count(0)", 13, x.count(0));
        due(6, "span(0, 0)", 12, x.span(0, 0));
        due(6, "span(0, 1)", 30, x.span(0, 1));
        due(6, "span(0, 2)", 60, x.span(0, 2));
        due(8, "wets()", 1 << 13, x.wets());
        x = Check.told("wire days 1 law 0 odds 0 volts 1; span 1 leak 1 needs 0; wet 5; span 2 leak 3; wet 0; wet 0;"
                + "span 3 leak 4 needs 7;");
        due(6, "span(1, 0)", 2, x.span(1, 0));
        due(6, "span(1, 1)", 3, x.span(1, 1));
        due(6, "span(1, 2) without a STATION", -1, x.span(1, 2));
        due(6, "span(0, 2)", 0, x.span(0, 2));
        due(6, "span(3, 0)", -2, x.span(3, 0));
        due(6, "span(-1, 0)", -2, x.span(-1, 0));
        due(6, "span(0, 3)", -2, x.span(0, 3));
        due(6, "span(0, -1)", -2, x.span(0, -1));
        due(7, "stations()", 5, x.stations());
        due(8, "wets(), a DAY that is not there aside", 1, x.wets());
        due(82, "count(5)", 3, x.count(5));
        due(82, "count(7)", 7, x.count(7));
        due(7, "stations() without SPANS", 0, Check.told(NO_SPANS).stations());
        due(4, "wire() of five spans and eight wets", 14, Check.tell(x, "wire days 1 law 0 odds 0 volts 1;"
                + "span 1 leak 1;".repeat(5) + "wet 1;".repeat(8)));
    }

    private static void leaksOf(LeakyLine x, int... want) {
        for (int day = 0; day < want.length; day++) {
            due(9, "leak(0, " + day + ") by LAW " + x.count(1), want[day], x.leak(0, day));
        }
    }

    private static void leaks() {
        leaksOf(Check.told(wetWire(0, 5)), 5, 5, 5, 5, 5, 5);
        leaksOf(Check.told(wetWire(1, 5)), 5, 2, 2, 5, 5, 5);
        leaksOf(Check.told(wetWire(2, 5)), 5, 2, 2, 2, 5, 5);
        leaksOf(Check.told(wetWire(3, 5)), 5, 4, 3, 3, 3, 3);
        String one = " odds 5 volts 12; span 1 leak 1; wet 0; wet 1;";
        leaksOf(Check.told("wire days 2 law 1" + one), 1, 1, 1);
        leaksOf(Check.told("wire days 2 law 2" + one), 1, 1, 1);
        leaksOf(Check.told("wire days 2 law 3" + one), 1, 1, 1);
        for (int law = 0; law < 4; law++) {
            LeakyLine x = Check.told(wetWire(law, 5));
            due(75, "cups(0, 2)", law == 3 ? 29 : 30, x.cups(0, 2));
            int[][] want = {{5, 5, 30, 30, 30}, {5, 2, 15, 30, 30}, {5, 2, 15, 15, 30}, {5, 4, 29, 29, 29}};
            leaksOf(x, want[law]);
            // CUPPED earlier, too: the latest counts
            x.cups(0, 0);
            int[][] then = {{30, 30, 30}, {30, 15, 15}, {30, 15, 15}, {30, 29, 29}};
            leaksOf(x, then[law]);
        }
        LeakyLine x = Check.told(wetWire(1, 5));
        due(9, "leak(1, 0)", -2, x.leak(1, 0));
        due(9, "leak(-1, 0)", -2, x.leak(-1, 0));
        due(9, "leak(0, 6)", -2, x.leak(0, 6));
        due(9, "leak(0, -1)", -2, x.leak(0, -1));
        due(9, "leak(0, 5)", 5, x.leak(0, 5));
    }

    private static void currents() {
        LeakyLine x = Check.told(PLAIN);
        due(10, "joined(0)", 2, x.joined(0));
        due(10, "joined(5)", -2, x.joined(5));
        due(11, "ohms(0, 0)", 2, x.ohms(0, 0));
        due(11, "ohms(0, 1)", 1, x.ohms(0, 1));
        due(11, "ohms(0, 2)", -2, x.ohms(0, 2));
        due(11, "ohms(0, -1)", -2, x.ohms(0, -1));
        due(11, "ohms(5, 0)", -2, x.ohms(5, 0));
        due(12, "amps(4, 0)", 5, x.amps(4, 0));
        due(12, "amps(4, 1)", 1, x.amps(4, 1));
        due(12, "amps(-1, 1)", -2, x.amps(-1, 1));
        due(12, "amps(0, 2)", -2, x.amps(0, 2));
        due(13, "volts(0, 0, 0)", 5, x.volts(0, 0, 0));
        due(13, "volts(1, 0, 0)", 5, x.volts(1, 0, 0));
        due(13, "volts(1, 0, 1)", 2, x.volts(1, 0, 1));
        due(13, "volts(2, 0, 1)", -2, x.volts(2, 0, 1));
        due(13, "volts(0, 0, 2)", -2, x.volts(0, 0, 2));
        due(14, "whole(1, 0)", 2, x.whole(1, 0));
        due(14, "whole(0, 0)", 5, x.whole(0, 0));
        due(14, "whole(2, 0)", -2, x.whole(2, 0));
        due(15, "falls(0, 0, 0)", 5, x.falls(0, 0, 0));
        due(15, "falls(1, 0, 0)", 5, x.falls(1, 0, 0));
        due(15, "falls(1, 0, 1)", 2, x.falls(1, 0, 1));
        due(15, "falls(1, 0, 2)", -2, x.falls(1, 0, 2));
        due(16, "earth(0, 0, 0)", 5, x.earth(0, 0, 0));
        due(16, "earth(0, 0, 1)", 2, x.earth(0, 0, 1));
        due(16, "earth(1, 0, 0)", 5, x.earth(1, 0, 0));
        due(16, "earth(1, 5, 0)", -2, x.earth(1, 5, 0));
        due(17, "sore(0), the first of two alike", 0, x.sore(0));
        due(42, "steep(0)", 0, x.steep(0));
        x.snaps(1, 2);
        due(10, "joined(1)", 2, x.joined(1));
        due(10, "joined(2)", 1, x.joined(2));
        due(11, "ohms(2, 0)", 3, x.ohms(2, 0));
        due(12, "amps(2, 1)", 3, x.amps(2, 1));
        due(13, "volts(1, 2, 0) behind what is broken", 0, x.volts(1, 2, 0));
        due(13, "volts(1, 2, 1)", 1, x.volts(1, 2, 1));
        due(14, "whole(1, 2)", 0, x.whole(1, 2));
        due(15, "falls(1, 2, 0)", 0, x.falls(1, 2, 0));
        due(15, "falls(1, 2, 1)", 1, x.falls(1, 2, 1));
        due(16, "earth(1, 2, 1)", 1, x.earth(1, 2, 1));
        x.snaps(0, 3);
        due(10, "joined(3)", 0, x.joined(3));
        due(11, "ohms(3, 0), none leads", 1, x.ohms(3, 0));
        due(11, "ohms(3, 1), none leads", 0, x.ohms(3, 1));
        due(12, "amps(3, 0)", 0, x.amps(3, 0));
        due(12, "amps(3, 1)", 1, x.amps(3, 1));
        due(15, "falls(0, 3, 0)", 0, x.falls(0, 3, 0));
        due(17, "sore(3)", -1, x.sore(3));
        due(42, "steep(3)", -1, x.steep(3));
        due(36, "ends(3)", -1, x.ends(3));
        // 1 + (30 || (12 + 2)): most leaks at the last POLE, most is lost in the last SPAN
        x = Check.told("wire days 1 law 0 odds 0 volts 31; span 1 leak 30; span 12 leak 2;");
        due(11, "ohms(0, 0)", 116, x.ohms(0, 0));
        due(11, "ohms(0, 1)", 11, x.ohms(0, 1));
        due(17, "sore(0)", 1, x.sore(0));
        due(42, "steep(0)", 1, x.steep(0));
        // (1 + 3 || (2 + 1)): half of the current goes on, over twice the ohms
        x = Check.told("wire days 1 law 0 odds 0 volts 10; span 1 leak 3; span 2 leak 1;");
        due(42, "steep(0), the first of two alike", 0, x.steep(0));
        due(15, "falls(0, 0, 0)", 4, x.falls(0, 0, 0));
        due(15, "falls(1, 0, 0)", 4, x.falls(1, 0, 0));
        due(15, "falls(0, 2, 0)", -2, x.falls(0, 2, 0));
        due(15, "falls(2, 0, 0)", -2, x.falls(2, 0, 0));
        x = Check.told(NO_SPANS);
        due(10, "joined(0) without SPANS", 0, x.joined(0));
        due(11, "ohms(0, 1) without SPANS", 0, x.ohms(0, 1));
        due(17, "sore(0) without SPANS", -1, x.sore(0));
        due(17, "sore(4)", -2, x.sore(4));
        due(42, "steep(4)", -2, x.steep(4));
    }

    private static void hearing() {
        LeakyLine x = Check.told(PLAIN);
        due(18, "hears(0): as much as it needs is enough", 1, x.hears(0));
        due(18, "hears(5)", -2, x.hears(5));
        due(19, "silent(0)", 2, x.silent(0));
        due(19, "silent(-1)", -2, x.silent(-1));
        due(20, "faint(0)", 1, x.faint(0));
        due(20, "faint(5)", -2, x.faint(5));
        due(50, "loud(0)", 0, x.loud(0));
        due(50, "loud(5)", -2, x.loud(5));
        x.snaps(0, 1);
        due(18, "hears(1)", 0, x.hears(1));
        due(20, "faint(1), the last of several", 1, x.faint(1));
        due(50, "loud(1), the first of several", 0, x.loud(1));
        due(37, "reach(0)", 0, x.reach(0));
        due(37, "reach(1)", -1, x.reach(1));
        due(37, "reach(5)", -2, x.reach(5));
        x = Check.told("wire days 1 law 0 odds 0 volts 10; span 1 leak 2; span 1 leak 1 needs 0; span 9 leak 1;");
        x.snaps(0, 1);
        due(18, "hears(1): 0 VOLTS are enough for who needs 0", 2, x.hears(1));
        due(37, "reach(1)", 1, x.reach(1));
        x = Check.told(NO_STATIONS);
        due(18, "hears(0) without STATIONS", 0, x.hears(0));
        due(19, "silent(0) without STATIONS", 0, x.silent(0));
        due(20, "faint(0) without STATIONS", -1, x.faint(0));
        due(50, "loud(0) without STATIONS", -1, x.loud(0));
        due(37, "reach(0) without STATIONS", -1, x.reach(0));
    }

    private static void overDays() {
        LeakyLine x = Check.told(wetWire(1, 5));
        due(21, "when(0)", 1, x.when(0));
        due(22, "deaf(0)", 2, x.deaf(0));
        due(23, "longest(0)", 3, x.longest(0));
        due(24, "flips(0)", 2, x.flips(0));
        due(25, "clear()", 0b111001, x.clear());
        due(26, "last()", 5, x.last());
        due(27, "dim(), the first of several", 1, x.dim());
        due(28, "sum()", 4, x.sum());
        due(33, "bright(), the first of several", 0, x.bright());
        due(43, "mute()", 0b000110, x.mute());
        due(44, "changes()", 2, x.changes());
        x = Check.told(wetWire(3, 5));
        due(24, "flips(0)", 1, x.flips(0));
        due(26, "last()", 0, x.last());
        x = Check.told(wetWire(0, 5));
        due(21, "when(0), on none", -1, x.when(0));
        due(22, "deaf(0)", 0, x.deaf(0));
        due(23, "longest(0)", 6, x.longest(0));
        due(24, "flips(0)", 0, x.flips(0));
        due(43, "mute()", 0, x.mute());
        due(44, "changes()", 0, x.changes());
        x = Check.told("wire days 2 law 1 odds 5 volts 12; span 1 leak 5 needs 10; wet 0;");
        due(27, "dim()", 0, x.dim());
        due(33, "bright()", 1, x.bright());
        due(21, "when(0)", 0, x.when(0));
        x = Check.told("wire days 2 law 1 odds 5 volts 12; span 1 leak 5 needs 10; wet 0; wet 1;");
        due(33, "bright() of the last DAY", 2, x.bright());
        due(44, "changes() on the last DAY", 1, x.changes());
        due(34, "rises(0) on the last DAY", 1, x.rises(0));
        x = Check.told("wire days 2 law 1 odds 5 volts 12; span 1 leak 5 needs 10; wet 2;");
        due(27, "dim() of the last DAY", 2, x.dim());
        due(54, "batteries() of the last DAY", 15, x.batteries());
        x = Check.told(PLAIN);
        due(25, "clear(): one hears, one does not", 0, x.clear());
        due(26, "last(), there is none", -1, x.last());
        due(28, "sum()", 5, x.sum());
        due(23, "longest(1)", 0, x.longest(1));
        due(44, "changes()", 0, x.changes());
        x.snaps(1, 4);
        due(44, "changes(): who hears stays so", 0, x.changes());
        for (int pole = -1; pole <= 2; pole += 3) {
            due(21, "when(" + pole + ")", -2, x.when(pole));
            due(22, "deaf(" + pole + ")", -2, x.deaf(pole));
            due(23, "longest(" + pole + ")", -2, x.longest(pole));
            due(24, "flips(" + pole + ")", -2, x.flips(pole));
        }
        x = Check.told(NO_STATIONS);
        due(21, "when(0) without a STATION", -2, x.when(0));
        due(22, "deaf(0) without a STATION", -2, x.deaf(0));
        due(23, "longest(0) without a STATION", -2, x.longest(0));
        due(24, "flips(0) without a STATION", -2, x.flips(0));
        due(25, "clear() without STATIONS", 7, x.clear());
        due(26, "last() without STATIONS", 2, x.last());
        due(27, "dim() without STATIONS", 0, x.dim());
        due(28, "sum() without STATIONS", 0, x.sum());
        due(33, "bright() without STATIONS", 0, x.bright());
        due(43, "mute() without STATIONS", 7, x.mute());
    }

    private static void wetDays() {
        LeakyLine x = Check.told("wire days 5 law 1 odds 5 volts 12; span 1 leak 9; span 1 leak 4; span 1 leak 5;"
                + "wet 0; wet 2; wet 3; wet 13;");
        due(29, "worst(1)", 1, x.worst(1));
        due(29, "worst(0), the first of several", 1, x.worst(0));
        due(29, "worst(6)", -2, x.worst(6));
        due(29, "worst(0) without POLES", -1, Check.told(NO_SPANS).worst(0));
        x.snaps(0, 0);
        due(29, "worst(1), broken or not", 1, x.worst(1));
        due(41, "grounds(1), broken or not", 18, x.grounds(1));
        due(41, "grounds(0)", 8, x.grounds(0));
        due(41, "grounds(-1)", -2, x.grounds(-1));
        due(30, "damp(0, 0)", 5, x.damp(0, 0));
        due(30, "damp(0, 1)", 0, x.damp(0, 1));
        due(30, "damp(3, 0)", -2, x.damp(3, 0));
        due(30, "damp(0, 6)", -2, x.damp(0, 6));
        x.cups(0, 2);
        due(30, "damp(0, 2), CUPPED as now", 15, x.damp(0, 2));
        due(31, "spell()", 2, x.spell());
        due(35, "dry()", 2, x.dry());
        due(34, "rises(1)", 2, x.rises(1));
        due(34, "rises(0)", 3, x.rises(0));
        due(34, "rises(3)", -2, x.rises(3));
        due(34, "rises(-1)", -2, x.rises(-1));
        x = Check.told("wire days 2 law 0 odds 0 volts 1; wet 3;");
        due(31, "spell() without WET DAYS", 0, x.spell());
        due(35, "dry() without WET DAYS", 3, x.dry());
        x = Check.told("wire days 1 law 0 odds 0 volts 1; wet 1; wet 0;");
        due(31, "spell(), all DAYS", 2, x.spell());
        due(35, "dry(), no DAY", 0, x.dry());
        x = Check.told("wire days 1 law 0 odds 0 volts 20; span 1 leak 2 needs 5; span 1 leak 1 needs 6; span 1 leak 1;");
        // 1 || (1 + 1) = 2 / 3; 5 / 3 || 2 = 10 / 11; 21 / 11 in all: 200 / 21 at POLE 0, 80 / 21 at POLE 1
        due(13, "volts(0, 0, 0)", 200, x.volts(0, 0, 0));
        due(13, "volts(0, 0, 1)", 21, x.volts(0, 0, 1));
        due(32, "margin(0, 0)", 4, x.margin(0, 0));
        due(32, "margin(1, 0), not more", 0, x.margin(1, 0));
        due(32, "margin(2, 0) without a STATION", -2, x.margin(2, 0));
        due(32, "margin(0, 2)", -2, x.margin(0, 2));
        due(49, "lack(0)", 3, x.lack(0));
        due(49, "lack(2)", -2, x.lack(2));
        x.snaps(0, 1);
        due(49, "lack(1)", 11, x.lack(1));
        due(32, "margin(0, 1)", 0, x.margin(0, 1));
        due(32, "margin(0, 0) of just what it needs", 0, Check.told(PLAIN).margin(0, 0));
        due(49, "lack(0), who hears aside", 1, Check.told(PLAIN).lack(0));
    }

    private static void pairsAndHalves() {
        LeakyLine x = Check.told("wire days 3 law 1 odds 5 volts 12; span 1 leak 5 needs 5; span 5 leak 30 needs 6;"
                + "wet 1;");
        // dry: 35 || 5 = 35 / 8, 420 / 43 = 9.8 and 8.4; wet: 20 || 2 = 20 / 11, 240 / 31 = 7.7 and 5.8
        due(18, "hears(1)", 1, x.hears(1));
        due(38, "both(0, 1)", 3, x.both(0, 1));
        due(38, "both(1, 1)", 3, x.both(1, 1));
        due(38, "both(0, 2)", -2, x.both(0, 2));
        due(38, "both(-1, 0)", -2, x.both(-1, 0));
        due(39, "apart(0, 1)", 1, x.apart(0, 1));
        due(39, "apart(1, 0)", 1, x.apart(1, 0));
        due(39, "apart(1, 1)", 0, x.apart(1, 1));
        due(39, "apart(2, 0)", -2, x.apart(2, 0));
        due(36, "ends(0)", 1, x.ends(0));
        due(36, "ends(4)", -2, x.ends(4));
        due(40, "half(0)", -1, x.half(0));
        due(40, "half(1)", 1, x.half(1));
        due(40, "half(4)", -2, x.half(4));
        due(40, "half(0) of just half", 0, Check.told(PLAIN).half(0));
        x.snaps(0, 2);
        due(40, "half(2), nothing behind what is broken", 0, x.half(2));
        due(40, "half(0) without POLES", -1, Check.told(NO_SPANS).half(0));
        due(38, "both(0, 1) without STATIONS", -2, Check.told(NO_STATIONS).both(0, 1));
        due(39, "apart(0, 1) without STATIONS", -2, Check.told(NO_STATIONS).apart(0, 1));
    }

    private static void broken() {
        LeakyLine x = Check.told(PLAIN);
        due(45, "all()", 10, x.all());
        due(46, "without(0)", 0, x.without(0));
        due(46, "without(1)", 5, x.without(1));
        due(46, "without(2)", -2, x.without(2));
        due(46, "without(-1)", -2, x.without(-1));
        due(47, "cupped(0, 4), on none", -1, x.cupped(0, 4));
        due(48, "snapped(0), on none", -1, x.snapped(0));
        x.cups(0, 3);
        x.cups(0, 1);
        x.snaps(1, 3);
        x.snaps(1, 2);
        x.snaps(1, 4);
        due(47, "cupped(0, 0)", -1, x.cupped(0, 0));
        due(47, "cupped(0, 1)", 1, x.cupped(0, 1));
        due(47, "cupped(0, 2)", 1, x.cupped(0, 2));
        due(47, "cupped(0, 4)", 3, x.cupped(0, 4));
        due(47, "cupped(1, 4)", -1, x.cupped(1, 4));
        due(47, "cupped(2, 0)", -2, x.cupped(2, 0));
        due(47, "cupped(0, 5)", -2, x.cupped(0, 5));
        due(48, "snapped(1)", 2, x.snapped(1));
        due(48, "snapped(0)", -1, x.snapped(0));
        due(48, "snapped(2)", -2, x.snapped(2));
        due(45, "all(), acts besides", 7, x.all());
        due(46, "without(0), acts besides", 0, x.without(0));
    }

    private static void stationsByDays() {
        LeakyLine x = Check.told("wire days 2 law 0 odds 0 volts 10; span 1 leak 30; span 1 leak 30 needs 60;"
                + "span 1 leak 30 needs 1; span 1 leak 30 needs 2; span 1 leak 9 needs 50;");
        due(51, "weakest(), the first of several", 1, x.weakest());
        due(52, "strong(), the first of several", 2, x.strong());
        x.snaps(2, 1);
        due(52, "strong()", 2, x.strong());
        x = Check.told("wire days 2 law 0 odds 0 volts 10; span 1 leak 30 needs 8; span 1 leak 30 needs 1;");
        x.snaps(1, 2);
        due(51, "weakest()", 1, x.weakest());
        due(52, "strong()", 0, x.strong());
        due(51, "weakest() without STATIONS", -1, Check.told(NO_STATIONS).weakest());
        due(52, "strong() without STATIONS", -1, Check.told(NO_STATIONS).strong());
    }

    private static void helps() {
        LeakyLine x = Check.told(PLAIN);
        due(53, "battery(0)", 12, x.battery(0));
        due(53, "battery(5)", -2, x.battery(5));
        due(54, "batteries()", 12, x.batteries());
        due(55, "cure(0)", 1, x.cure(0));
        due(55, "cure(5)", -2, x.cure(5));
        due(56, "cures(0), the least set", 1, x.cures(0));
        due(56, "cures(-1)", -2, x.cures(-1));
        due(57, "best(), the first of several", 0, x.best());
        due(58, "thick(): none helps", -1, x.thick());
        x.snaps(1, 3);
        due(53, "battery(3), broken", -1, x.battery(3));
        due(53, "battery(2)", 12, x.battery(2));
        due(54, "batteries(), one DAY by none", -1, x.batteries());
        due(55, "cure(3), broken", -1, x.cure(3));
        due(56, "cures(3), broken", -1, x.cures(3));
        x = Check.told(wetWire(1, 5));
        due(53, "battery(0)", 12, x.battery(0));
        due(53, "battery(1)", 15, x.battery(1));
        due(54, "batteries()", 15, x.batteries());
        due(55, "cure(0): none is to be CUPPED", 0, x.cure(0));
        due(56, "cures(0)", 0, x.cures(0));
        due(55, "cure(1)", 1, x.cure(1));
        due(57, "best()", 0, x.best());
        due(53, "battery(0) without STATIONS", 1, Check.told(NO_STATIONS).battery(0));
        due(54, "batteries() without STATIONS", 1, Check.told(NO_STATIONS).batteries());
        due(55, "cure(0) without STATIONS", 0, Check.told(NO_STATIONS).cure(0));
        due(57, "best() without STATIONS", -1, Check.told(NO_STATIONS).best());
        due(58, "thick() without SPANS", -1, Check.told(NO_SPANS).thick());
        // LEAK by ohms: 200 VOLTS are just enough for 50, not for 51
        x = Check.told("wire days 1 law 0 odds 0 volts 9; span 3 leak 1 needs 50;");
        due(53, "battery(0) of 200", 200, x.battery(0));
        x.rate(0, 51);
        due(53, "battery(0) above 200", -1, x.battery(0));
        due(54, "batteries() above 200", -1, x.batteries());
        x.rate(0, 0);
        due(53, "battery(0) of who needs 0", 1, x.battery(0));
        // 59 by 5 / 17 is 200.6
        x = Check.told("wire days 1 law 0 odds 0 volts 9; span 12 leak 5 needs 59;");
        due(53, "battery(0) of 201", -1, x.battery(0));
        // both SPANS help alike, the second first of all more
        x = Check.told("wire days 1 law 0 odds 0 volts 10; span 2 leak 2 needs 5; span 8 leak 2 needs 2;");
        // 10 || 2 = 5 / 3 of 11 / 3: 50 / 11 and 10 / 11; SPAN 0 of 1: 5 / 3 of 8 / 3, 6.25 and 1.25
        // SPAN 1 of 1: 3 || 2 = 6 / 5 of 16 / 5, 3.75 and 2.5
        due(58, "thick(), the first of two alike", 0, x.thick());
        x.rate(0, 7);
        due(58, "thick()", 1, x.thick());
        // two POLES are needed, and no one alone
        x = Check.told("wire days 1 law 0 odds 0 volts 10; span 1 leak 1; span 1 leak 1 needs 8;");
        due(55, "cure(0)", 2, x.cure(0));
        due(56, "cures(0)", 3, x.cures(0));
        due(57, "best(): none alone", -1, x.best());
        x = Check.told("wire days 1 law 0 odds 0 volts 10; span 1 leak 9; span 1 leak 1; span 1 leak 30 needs 7;");
        due(56, "cures(0)", 2, x.cures(0));
        due(57, "best()", 1, x.best());
    }

    private static void seen() {
        LeakyLine x = Check.told(PLAIN);
        Check.row(x, 0, 1, 0, 2, 1);
        due(59, "fits(0, 0)", 1, x.fits(0, 0));
        due(60, "low(0, 0)", 2, x.low(0, 0));
        due(61, "high(0, 0)", 2, x.high(0, 0));
        due(60, "low(0, 1)", 1, x.low(0, 1));
        Check.row(x, 0, 3, 0, 5, 2, 3, 5, 2);
        due(60, "low(0, 0): 2 || 6", 6, x.low(0, 0));
        due(60, "low(0, 1): 2 || (1 + 5)", 5, x.low(0, 1));
        Check.row(x, 0, 3, 0, 10, 4);
        due(59, "fits(0, 0), not in lowest terms", 0, x.fits(0, 0));
        due(60, "low(0, 0), there is none", -1, x.low(0, 0));
        due(61, "high(0, 0), there is none", -1, x.high(0, 0));
        Check.row(x, 0, 3, 0, 5, 2, 3, 2, 1);
        due(59, "fits(0, 0), two that do not go together", 0, x.fits(0, 0));
        Check.row(x, 1, 0);
        due(59, "fits(1, 0) of a row of none", 30, x.fits(1, 0));
        due(60, "low(1, 0) of a row of none", 1, x.low(1, 0));
        due(61, "high(1, 0) of a row of none", 30, x.high(1, 0));
        x.cups(0, 1);
        Check.row(x, 0, 2, 1, 23, 8);
        due(59, "fits(0, 0), CUPPED whatever was told", 30, x.fits(0, 0));
        Check.row(x, 0, 2, 1, 23, 8, 0, 2, 1);
        due(59, "fits(0, 0), told ahead of that", 1, x.fits(0, 0));
        refusedRows(x);
        // half of 2 and of 3 is 1, and 1 stays 1
        x = Check.told("wire days 1 law 1 odds 5 volts 9; span 1 leak 7; wet 0;");
        Check.row(x, 0, 0, 0, 2, 1);
        due(59, "fits(0, 0)", 3, x.fits(0, 0));
        due(60, "low(0, 0)", 1, x.low(0, 0));
        due(61, "high(0, 0)", 3, x.high(0, 0));
        x.snaps(0, 0);
        Check.row(x, 0, 0, 1, 1, 0);
        due(59, "fits(0, 0), none leads", 30, x.fits(0, 0));
    }

    private static void refusedRows(LeakyLine x) {
        long[][] wrong = {{5, 2, 1}, {-1, 2, 1}, {0, -2, 1}, {0, 2, -1}, {0, 2}, {0, 2, 1, 0}, {0, 2, 1, 0, 2, 1, 9, 0, 0}};
        for (long[] numbers : wrong) {
            Check.row(x, 2, 3, numbers);
            dueOfAll(x, 2, 0, -2);
        }
        // a byte holds -1, not 255
        Check.row(x, 2, 0, 0, 255, 1);
        dueOfAll(x, 2, 0, -2);
        Check.row(x, 2, 3, 0, 2, 1);
        dueOfAll(x, -1, 0, -2);
        dueOfAll(x, 4, 0, -2);
        dueOfAll(x, 3, 0, -6);
        for (int pole = -1; pole <= 2; pole += 3) {
            dueOfPole(x, 2, pole, -2);
            dueOfPole(x, 3, pole, -2);
        }
    }

    private static void dueOfPole(LeakyLine x, int slot, int pole, long want) {
        due(59, "fits(" + slot + ", " + pole + ")", want, x.fits(slot, pole));
        due(60, "low(" + slot + ", " + pole + ")", want, x.low(slot, pole));
        due(61, "high(" + slot + ", " + pole + ")", want, x.high(slot, pole));
        due(62, "ask(" + slot + ", " + pole + ")", want, x.ask(slot, pole));
        due(63, "leaves(" + slot + ", " + pole + ")", want, x.leaves(slot, pole));
    }

    private static void dueOfAll(LeakyLine x, int slot, int pole, long want) {
        dueOfPole(x, slot, pole, want);
        due(64, "spots(" + slot + ")", want, x.spots(slot));
        due(65, "breaks(" + slot + ")", want, x.breaks(slot));
        due(66, "laws(" + slot + ")", want, x.laws(slot));
    }

    private static void asked() {
        LeakyLine x = Check.told(PLAIN);
        x.row(0, 0, 0);
        due(62, "ask(0, 0), the first of several", 0, x.ask(0, 0));
        due(63, "leaves(0, 0)", 1, x.leaves(0, 0));
        x.cups(0, 0);
        due(62, "ask(0, 0), all alike", -1, x.ask(0, 0));
        due(63, "leaves(0, 0), as now", 30, x.leaves(0, 0));
        due(62, "ask(0, 1)", 0, x.ask(0, 1));
        // DAY 0 leaves 1, 2 and 3 together, DAY 1 none
        x = Check.told("wire days 2 law 1 odds 5 volts 9; span 1 leak 7; wet 0;");
        x.row(0, 0, 0);
        due(62, "ask(0, 0)", 1, x.ask(0, 0));
        due(63, "leaves(0, 0)", 1, x.leaves(0, 0));
        Check.row(x, 0, 1, 0, 2, 1);
        due(62, "ask(0, 0) of three", 1, x.ask(0, 0));
        x.cups(0, 1);
        due(62, "ask(0, 0): DAY 0 is known", -1, x.ask(0, 0));
        due(63, "leaves(0, 0), as now", 3, x.leaves(0, 0));
        x.row(0, 0, 0);
        due(62, "ask(0, 0)", 0, x.ask(0, 0));
        due(63, "leaves(0, 0) at worst", 3, x.leaves(0, 0));
        x = Check.told("wire days 1 law 1 odds 5 volts 9; span 1 leak 7; wet 0;");
        x.row(0, 0, 0);
        due(62, "ask(0, 0) of the last DAY", 1, x.ask(0, 0));
        Check.row(x, 0, 1, 0, 99, 1);
        due(62, "ask(0, 0) of none", -1, x.ask(0, 0));
        due(63, "leaves(0, 0) of none", 0, x.leaves(0, 0));
    }

    private static void spotsBreaksLaws() {
        LeakyLine x = Check.told(PLAIN);
        Check.row(x, 0, 1, 0, 2, 1);
        due(64, "spots(0) of what is told", 0, x.spots(0));
        due(65, "breaks(0) of what is told", 0, x.breaks(0));
        due(66, "laws(0) of what is told", 15, x.laws(0));
        Check.row(x, 0, 1, 0, 5, 2);
        due(64, "spots(0)", 3, x.spots(0));
        due(66, "laws(0)", 0, x.laws(0));
        // 2 || (1 + l) stays below 2
        Check.row(x, 0, 1, 1, 3, 1);
        due(64, "spots(0)", 0, x.spots(0));
        due(65, "breaks(0)", 2, x.breaks(0));
        Check.row(x, 0, 1, 1, 1, 0);
        due(65, "breaks(0), none leads", 1, x.breaks(0));
        x.snaps(0, 1);
        due(65, "breaks(0), broken already", 3, x.breaks(0));
        due(64, "spots(0), broken already", 3, x.spots(0));
        Check.row(x, 0, 1, 0, 2, 1);
        due(65, "breaks(0), not broken on DAY 0", 0, x.breaks(0));
        for (int law = 0; law < 4; law++) {
            x = Check.told(wetWire(law, 5));
            Check.row(x, 1, 1, 3, 6, 1);
            due(66, "laws(1)", 3, x.laws(1));
            Check.row(x, 1, 1, 3, 6, 1, 2, 3, 1);
            due(66, "laws(1)", 2, x.laws(1));
            Check.row(x, 1, 1, 3, 3, 1);
            due(66, "laws(1)", 4, x.laws(1));
            Check.row(x, 1, 1, 3, 4, 1);
            due(66, "laws(1)", 8, x.laws(1));
            int[] sums = {6, 4, 3, 1};
            for (int by = 0; by < 4; by++) {
                due(67, "by(" + by + ")", sums[by], x.by(by));
            }
            due(28, "sum()", sums[law], x.sum());
            due(68, "law()", 0, x.law());
        }
        due(67, "by(4)", -2, x.by(4));
        due(67, "by(-1)", -2, x.by(-1));
        due(68, "law(), the least of several", 0, Check.told(PLAIN).law());
        x = Check.told(NO_SPANS);
        Check.row(x, 1, 1, 3, 1, 0);
        due(64, "spots(1) without POLES", 0, x.spots(1));
        due(65, "breaks(1) without SPANS", 0, x.breaks(1));
        due(66, "laws(1) without SPANS", 15, x.laws(1));
        due(59, "fits(1, 0) without POLES", -2, x.fits(1, 0));
    }

    private static void shares() {
        LeakyLine x = Check.told(PLAIN);
        int[] worths = {5, 10, 10, 10};
        for (int set = 0; set < 4; set++) {
            due(69, "worth(" + set + ")", worths[set], x.worth(set));
        }
        due(69, "worth(4)", -2, x.worth(4));
        due(69, "worth(-1)", -2, x.worth(-1));
        due(69, "worth(0) without SPANS", 0, Check.told(NO_SPANS).worth(0));
        due(69, "worth(1) without SPANS", -2, Check.told(NO_SPANS).worth(1));
        for (int pole = 0; pole < 2; pole++) {
            due(70, "share(" + pole + ", 0)", 5, x.share(pole, 0));
            due(70, "share(" + pole + ", 1)", 2, x.share(pole, 1));
        }
        due(70, "share(2, 0)", -1000000, x.share(2, 0));
        due(70, "share(-1, 0)", -1000000, x.share(-1, 0));
        due(70, "share(0, 2)", -1000000, x.share(0, 2));
        x.cups(1, 0);
        due(70, "share(0, 0) of nothing more", 0, x.share(0, 0));
        due(70, "share(0, 1) of nothing more", 1, x.share(0, 1));
        // all three together alone help, by 2 DAYS: 2 / 3 each
        x = Check.told("wire days 1 law 0 odds 0 volts 10; span 1 leak 3; span 1 leak 3; span 1 leak 3 needs 8;");
        due(69, "worth(6)", 0, x.worth(6));
        due(69, "worth(7)", 2, x.worth(7));
        due(70, "share(2, 0)", 2, x.share(2, 0));
        due(70, "share(2, 1)", 3, x.share(2, 1));
    }

    private static void games() {
        LeakyLine x = Check.told(PLAIN);
        due(71, "rests(0, 1)", 4, x.rests(0, 1));
        due(71, "rests(1, 0)", 2, x.rests(1, 0));
        due(71, "rests(1, 1)", -2, x.rests(1, 1));
        due(71, "rests(0, 2)", -2, x.rests(0, 2));
        due(71, "rests(-1, 0)", -2, x.rests(-1, 0));
        int[][] gets = {{0, 0, 5}, {1, 0, 3}, {0, 1, 5}, {1, 1, 3}};
        int[][] others = {{0, 0, 0}, {1, 0, 3}, {0, 1, 5}, {1, 1, 3}};
        for (int i = 0; i < 4; i++) {
            due(72, "gets(0, 1, ..)", gets[i][2], x.gets(0, 1, gets[i][0], gets[i][1]));
            due(72, "gets(1, 0, ..)", others[i][2], x.gets(1, 0, others[i][0], others[i][1]));
        }
        due(72, "gets(0, 0, 0, 0)", -1000, x.gets(0, 0, 0, 0));
        due(72, "gets(0, 2, 0, 0)", -1000, x.gets(0, 2, 0, 0));
        due(72, "gets(2, 0, 0, 0)", -1000, x.gets(2, 0, 0, 0));
        due(72, "gets(0, 1, 2, 0)", -1000, x.gets(0, 1, 2, 0));
        due(72, "gets(0, 1, 0, -1)", -1000, x.gets(0, 1, 0, -1));
        x = Check.told(NO_STATIONS);
        due(72, "gets(0, 1, 1, 0) without a STATION", -2, x.gets(0, 1, 1, 0));
        due(72, "gets(0, 1, 0, 1) without a STATION", 0, x.gets(0, 1, 0, 1));
        due(71, "rests(0, 1) without STATIONS", 1, x.rests(0, 1));
        // with 2 DAYS to hear on, CUPPED or not is all one
        x = Check.told("wire days 1 law 0 odds 0 volts 10; span 1 leak 1 needs 8; span 12 leak 1;");
        due(71, "rests(0, 1), two at REST", 3, x.rests(0, 1));
        // either hears only if both are CUPPED
        x = Check.told("wire days 4 law 0 odds 0 volts 10; span 1 leak 2 needs 9; span 1 leak 2 needs 8;");
        due(71, "rests(0, 1), neither or both", 9, x.rests(0, 1));
    }

    private static void chanceOf(LeakyLine x, int day, long above, long below) {
        due(73, "chance(0, " + day + ", 0) by LAW " + x.count(1), above, x.chance(0, day, 0));
        due(73, "chance(0, " + day + ", 1) by LAW " + x.count(1), below, x.chance(0, day, 1));
        due(74, "mean(" + day + ", 0) by LAW " + x.count(1), above, x.mean(day, 0));
        due(74, "mean(" + day + ", 1) by LAW " + x.count(1), below, x.mean(day, 1));
    }

    private static void chances() {
        chanceOf(Check.told(wetWire(0, 3)), 5, 1, 1);
        chanceOf(Check.told(wetWire(1, 3)), 0, 7, 10);
        chanceOf(Check.told(wetWire(1, 5)), 5, 1, 2);
        chanceOf(Check.told(wetWire(2, 3)), 0, 7, 10);
        chanceOf(Check.told(wetWire(2, 3)), 1, 49, 100);
        chanceOf(Check.told(wetWire(2, 3)), 5, 49, 100);
        chanceOf(Check.told(wetWire(3, 3)), 2, 343, 1000);
        chanceOf(Check.told(wetWire(3, 10)), 0, 0, 1);
        chanceOf(Check.told(wetWire(3, 0)), 5, 1, 1);
        LeakyLine x = Check.told("wire days 9 law 3 odds 3 volts 12; span 1 leak 5 needs 10;");
        chanceOf(x, 7, 5764801, 100000000);
        due(73, "chance(0, 8, 0)", -2, x.chance(0, 8, 0));
        due(74, "mean(8, 0)", -2, x.mean(8, 0));
        x = Check.told(wetWire(1, 3));
        due(73, "chance(0, 6, 0)", -2, x.chance(0, 6, 0));
        due(73, "chance(0, 0, 2)", -2, x.chance(0, 0, 2));
        due(73, "chance(1, 0, 0)", -2, x.chance(1, 0, 0));
        due(74, "mean(6, 0)", -2, x.mean(6, 0));
        due(74, "mean(-1, 0)", -2, x.mean(-1, 0));
        due(74, "mean(0, 2)", -2, x.mean(0, 2));
        x.cups(0, 1);
        chanceOf(x, 0, 7, 10);
        chanceOf(x, 1, 1, 1);
        x = Check.told("wire days 2 law 1 odds 4 volts 12; span 1 leak 5 needs 5; span 5 leak 30 needs 6; span 1 leak 30;");
        x.snaps(2, 0);
        due(74, "mean(1, 0): 1 and 6 / 10", 8, x.mean(1, 0));
        due(74, "mean(1, 1): 1 and 6 / 10", 5, x.mean(1, 1));
        due(73, "chance(2, 0, 0) without a STATION", -2, x.chance(2, 0, 0));
        due(74, "mean(0, 0) without STATIONS", 0, Check.told(NO_STATIONS).mean(0, 0));
        due(74, "mean(0, 1) without STATIONS", 1, Check.told(NO_STATIONS).mean(0, 1));
    }

    private static void acts() {
        LeakyLine x = Check.told(PLAIN);
        due(75, "cups(2, 0)", -2, x.cups(2, 0));
        due(75, "cups(0, 5)", -2, x.cups(0, 5));
        due(76, "snaps(-1, 0)", -2, x.snaps(-1, 0));
        due(76, "snaps(0, -1)", -2, x.snaps(0, -1));
        due(77, "undo() of none", -5, x.undo());
        due(78, "anew() of none", 0, x.anew());
        due(75, "cups(1, 4)", 30, x.cups(1, 4));
        due(76, "snaps(1, 4)", 1, x.snaps(1, 4));
        due(76, "snaps(0, 2)", 0, x.snaps(0, 2));
        due(76, "snaps(0, 4)", 0, x.snaps(0, 4));
        due(48, "snapped(0)", 2, x.snapped(0));
        due(77, "undo()", 3, x.undo());
        due(48, "snapped(0), the first stays", 2, x.snapped(0));
        due(77, "undo()", 2, x.undo());
        due(48, "snapped(0)", -1, x.snapped(0));
        due(10, "joined(4)", 1, x.joined(4));
        due(81, "rate(0, 4), there were acts", -5, x.rate(0, 4));
        due(81, "rate(2, 4), -2 first", -2, x.rate(2, 4));
        due(81, "rate(0, 61), -2 first", -2, x.rate(0, 61));
        due(78, "anew()", 2, x.anew());
        due(9, "leak(1, 4)", 1, x.leak(1, 4));
        due(81, "rate(1, 2)", 3, x.rate(1, 2));
        due(81, "rate(1, 60)", 2, x.rate(1, 60));
        due(6, "span(1, 2)", 60, x.span(1, 2));
        due(81, "rate(1, 61)", -2, x.rate(1, 61));
        due(81, "rate(1, -1)", -2, x.rate(1, -1));
        due(81, "rate(0, 0) without a STATION", -2, Check.told(NO_STATIONS).rate(0, 0));
        for (int i = 0; i < 30; i++) {
            due(75, "cups(0, 4)", 30, x.cups(0, i % 2 == 0 ? 4 : 0));
        }
        due(75, "cups(0, 0), a 31st act", -5, x.cups(0, 0));
        due(76, "snaps(0, 0), a 31st act", -5, x.snaps(0, 0));
        due(75, "cups(0, 5), -2 first", -2, x.cups(0, 5));
        due(76, "snaps(2, 0), -2 first", -2, x.snaps(2, 0));
        due(77, "undo()", 29, x.undo());
        due(76, "snaps(0, 0)", 0, x.snaps(0, 0));
        due(82, "count(6)", 30, x.count(6));
        Check.tell(x, PLAIN);
        due(4, "nothing done in a new WIRE", 0, x.count(6));
        due(4, "nothing done in a new WIRE", 2, x.joined(0));
        due(4, "nothing done in a new WIRE", 2, x.leak(0, 4));
    }

    private static void draws() {
        LeakyLine x = Check.told(wetWire(1, 5));
        due(79, "drawn(0, 0): 0 8 8 7 8 7", 1, x.drawn(0, 0));
        due(79, "drawn(5, 0): 5 7 6 7 3 4", 0b110000, x.drawn(5, 0));
        due(79, "drawn(2000000000, 0): 4 3 1 7 6 2", 0b100111, x.drawn(2000000000, 0));
        due(79, "drawn(0, 1)", 1, x.drawn(0, 1));
        due(79, "drawn(5, 1)", 0, x.drawn(5, 1));
        due(79, "drawn(-1, 0)", -2, x.drawn(-1, 0));
        due(79, "drawn(2000000001, 0)", -2, x.drawn(2000000001, 0));
        due(79, "drawn(0, 2)", -2, x.drawn(0, 2));
        due(8, "wets(), as told", 6, x.wets());
        // the last DAY's draw of seeds 5 .. 14 is 4, 5, 5, 3, 4, 4, 2, 3, 3, 1
        due(80, "luck(5, 10, 0)", 2, x.luck(5, 10, 0));
        due(80, "luck(6, 2, 0)", 2, x.luck(6, 2, 0));
        due(80, "luck(5, 1, 0)", 0, x.luck(5, 1, 0));
        due(80, "luck(0, 1, 0)", 1, x.luck(0, 1, 0));
        due(80, "luck(0, 0, 0)", -2, x.luck(0, 0, 0));
        due(80, "luck(0, 21, 0)", -2, x.luck(0, 21, 0));
        due(80, "luck(-1, 1, 0)", -2, x.luck(-1, 1, 0));
        due(80, "luck(2000000001, 1, 0)", -2, x.luck(2000000001, 1, 0));
        due(80, "luck(0, 1, 1)", -2, x.luck(0, 1, 1));
        due(80, "luck(2000000000, 1, 0)", 0, x.luck(2000000000, 1, 0));
        x.cups(0, 3);
        due(79, "drawn(5, 1), CUPPED as now", 1, x.drawn(5, 1));
        due(80, "luck(5, 20, 0), CUPPED as now", 20, x.luck(5, 20, 0));
        due(79, "drawn(5, 0) by odds 0", 0, Check.told(wetWire(1, 0)).drawn(5, 0));
        due(79, "drawn(5, 0) by odds 10", 63, Check.told(wetWire(1, 10)).drawn(5, 0));
        due(79, "drawn(5, 0) by odds 4: 3 is below, 4 is not", 16, Check.told(wetWire(1, 4)).drawn(5, 0));
        due(80, "luck(0, 1, 0) without a STATION", -2, Check.told(NO_STATIONS).luck(0, 1, 0));
    }

    private static void counts() {
        LeakyLine x = Check.told("wire days 7 law 2 odds 4 volts 33; span 1 leak 2; wet 9; wet 1; wet 1;");
        x.cups(0, 0);
        x.feed(0, 0, 0, 0, 0);
        x.row(2, 0, 0);
        int[] want = {7, 2, 4, 33, 1, 3, 1, 5, 20, 1};
        for (int what = 0; what < want.length; what++) {
            due(82, "count(" + what + ")", want[what], x.count(what));
        }
        due(82, "count(10)", -1, x.count(10));
        due(82, "count(-1)", -1, x.count(-1));
    }

    private static void images() {
        LeakyLine x = Check.told(PLAIN);
        due(84, "back(0) of nothing", -6, x.back(0));
        due(83, "image(3)", -2, x.image(3));
        due(83, "image(-1)", -2, x.image(-1));
        due(84, "back(3)", -2, x.back(3));
        due(84, "back(-1)", -2, x.back(-1));
        x.rate(1, 9);
        x.cups(0, 2);
        due(83, "image(0)", 0, x.image(0));
        x.snaps(0, 1);
        due(83, "image(2)", 0, x.image(2));
        Check.tell(x, NO_SPANS);
        x.row(0, 0, 3);
        x.feed(1, 1, 1, 1, 1);
        due(84, "back(0)", 0, x.back(0));
        due(84, "acts then", 1, x.count(6));
        due(84, "cupped(0, 4) then", 2, x.cupped(0, 4));
        due(84, "snapped(0) then", -1, x.snapped(0));
        due(84, "span(1, 2) then", 9, x.span(1, 2));
        due(84, "count(7) then", 3, x.count(7));
        due(84, "the TAPE stays", 20, x.count(8));
        due(84, "SLOTS stay", 1, x.count(9));
        x.cups(0, 4);
        x.undo();
        x.undo();
        x.rate(1, 8);
        due(84, "back(0) again", 0, x.back(0));
        due(84, "span(1, 2), the IMAGE stays", 9, x.span(1, 2));
        due(84, "acts, the IMAGE stays", 1, x.count(6));
        due(84, "back(2)", 0, x.back(2));
        due(84, "snapped(0) then", 1, x.snapped(0));
        due(77, "undo() of what an IMAGE had", 1, x.undo());
        due(84, "back(1) of nothing", -6, x.back(1));
        x.end(0);
        x.wire();
        due(83, "image(1) of no WIRE", 0, x.image(1));
        due(84, "back(0)", 0, x.back(0));
        due(84, "back(1) to no WIRE", 0, x.back(1));
        due(84, "stations() then", -2, x.stations());
    }

    private static void slots() {
        LeakyLine x = Check.told(PLAIN);
        due(85, "row(-1, 0, 1)", -2, x.row(-1, 0, 1));
        due(85, "row(4, 0, 1)", -2, x.row(4, 0, 1));
        due(85, "row(0, -1, 1)", -2, x.row(0, -1, 1));
        due(85, "row(0, 4, 1)", -2, x.row(0, 4, 1));
        due(85, "row(0, 0, 61)", -2, x.row(0, 0, 61));
        due(85, "row(0, 4, -1), -2 first", -2, x.row(0, 4, -1));
        due(85, "row(0, 0, -1)", -3, x.row(0, 0, -1));
        due(85, "count(9)", 0, x.count(9));
        due(86, "write(0, 0, 1) of nothing", -6, x.write(0, 0, 1));
        due(86, "write(4, 0, 1)", -2, x.write(4, 0, 1));
        due(86, "write(-1, 0, 1)", -2, x.write(-1, 0, 1));
        due(85, "row(3, 3, 60)", 0, x.row(3, 3, 60));
        due(86, "write(3, 59, 1)", 0, x.write(3, 59, 1));
        due(86, "write(3, 60, 1)", -7, x.write(3, 60, 1));
        due(86, "write(3, -1, 1)", -7, x.write(3, -1, 1));
        due(85, "row(3, 3, -1), the SLOT stays", -3, x.row(3, 3, -1));
        due(86, "write(3, 59, 1)", 0, x.write(3, 59, 1));
        widths(x);
        due(85, "row, all 0 again", 0, x.row(3, 3, 3));
        due(66, "laws(3): 0, 0, 0", 0, x.laws(3));
        x.row(0, 3, 0);
        due(86, "write(0, 0, 1) of a row of none", -7, x.write(0, 0, 1));
        pastes(x);
    }

    /** What is cut shows in whether the row is read as DAY 0, 2 / 1. */
    private static void widths(LeakyLine x) {
        for (int width = 0; width < 4; width++) {
            long beyond = width == 3 ? 0 : 1L << (8 << width);
            Check.row(x, 1, width, beyond, 2 + beyond, 1 - beyond);
            due(86, "cut to WIDTH " + width, 15, x.laws(1));
            long top = 1L << ((8 << width) - 1);
            Check.row(x, 1, width, 0, 2, top);
            due(86, "the highest bit of WIDTH " + width + " is below 0", -2, x.laws(1));
            Check.row(x, 1, width, 0, 2, top - 1);
            due(86, "the most of WIDTH " + width + " is above 0", 0, x.laws(1));
        }
    }

    private static void pastes(LeakyLine x) {
        Check.row(x, 0, 1, 0, 2, 1, 0, 2, 1);
        x.row(1, 1, 3);
        x.row(2, 2, 3);
        due(87, "paste(4, ..)", -2, x.paste(4, 0, 0, 0, 1));
        due(87, "paste(0, 0, -1, ..)", -2, x.paste(0, 0, -1, 0, 1));
        LeakyLine y = Check.told(PLAIN);
        y.row(0, 1, 3);
        due(87, "paste to nothing", -6, y.paste(0, 0, 1, 0, 1));
        due(87, "paste of nothing", -6, y.paste(1, 0, 0, 0, 1));
        due(87, "paste(4, ..), -2 first", -2, y.paste(1, 0, 4, 0, 1));
        due(87, "paste of another WIDTH", -8, x.paste(0, 0, 2, 0, 1));
        due(87, "paste of another WIDTH, beyond, too", -8, x.paste(0, 9, 2, 0, 1));
        due(87, "paste beyond to", -7, x.paste(0, 0, 1, 1, 3));
        due(87, "paste beyond from", -7, x.paste(0, 4, 1, 0, 3));
        due(87, "paste from -1", -7, x.paste(0, -1, 1, 0, 1));
        due(87, "paste to -1", -7, x.paste(0, 0, 1, -1, 1));
        due(87, "paste of -1", -7, x.paste(0, 1, 1, 1, -1));
        due(87, "paste far beyond", -7, x.paste(0, Integer.MAX_VALUE, 1, 0, Integer.MAX_VALUE));
        due(87, "paste far beyond", -7, x.paste(0, 1, 1, 1, Integer.MAX_VALUE));
        due(87, "nothing happened", 0, x.laws(1));
        due(87, "paste", 0, x.paste(0, 3, 1, 0, 3));
        due(87, "what was pasted", 15, x.laws(1));
        due(87, "paste of none", 0, x.paste(0, 6, 1, 3, 0));
        Check.row(x, 0, 1, 0, 2, 1, 9, 9, 9, 9, 9, 9);
        due(87, "paste within its own, upwards", 0, x.paste(0, 0, 0, 3, 6));
        Check.row(x, 1, 1, 9, 9, 9);
        x.paste(0, 3, 1, 0, 3);
        due(87, "as they were", 15, x.laws(1));
        x.paste(0, 6, 1, 0, 3);
        due(87, "as they were, not as they became", -2, x.laws(1));
        Check.row(x, 0, 1, 9, 0, 2, 1, 0, 2, 1);
        due(87, "paste within its own, downwards", 0, x.paste(0, 1, 0, 0, 6));
        x.paste(0, 3, 1, 0, 3);
        due(87, "as they were", 15, x.laws(1));
    }

    private static void noWire() {
        LeakyLine x = new LeakyLine();
        x.row(0, 0, 0);
        int[] ofWire = {x.stations(), x.wets(), x.clear(), x.last(), x.dim(), x.sum(), x.spell(), x.bright(), x.dry(),
            x.mute(), x.changes(), x.all(), x.weakest(), x.strong(), x.batteries(), x.best(), x.thick(), x.law(),
            x.undo(), x.anew(), x.by(0), x.worth(0), x.drawn(0, 0), x.spots(0), x.breaks(0), x.laws(0), x.spots(1)};
        for (int i = 0; i < ofWire.length; i++) {
            due(1, "call " + i + " without a WIRE", -2, ofWire[i]);
        }
        long[] ofDay = {x.joined(0), x.ohms(0, 0), x.amps(0, 0), x.sore(0), x.hears(0), x.silent(0), x.faint(0),
            x.worst(0), x.ends(0), x.reach(0), x.half(0), x.grounds(0), x.steep(0), x.lack(0), x.loud(0), x.battery(0),
            x.cure(0), x.cures(0), x.mean(0, 0), x.leak(0, 0), x.volts(0, 0, 0), x.fits(0, 0), x.rate(0, 0)};
        for (int i = 0; i < ofDay.length; i++) {
            due(1, "call " + i + " of a DAY without a WIRE", -2, ofDay[i]);
        }
        due(70, "share(0, 0) without a WIRE", -1000000, x.share(0, 0));
        due(72, "gets(0, 1, 0, 0) without a WIRE", -1000, x.gets(0, 1, 0, 0));
        due(1, "NONE", -1, LeakyLine.NONE);
    }

    /** What a call supposes is gone with it: all answers stay as they were. */
    private static void nothingLeftBehind() {
        LeakyLine x = Check.told("wire days 3 law 1 odds 4 volts 20; span 2 leak 9 needs 14; span 3 leak 7 needs 9;"
                + "span 1 leak 8 needs 8; wet 1;");
        x.row(0, 0, 0);
        List<IntToLongFunction> supposing = List.of(d -> x.damp(0, d), d -> x.all(), d -> x.without(0), d -> x.cures(d),
                d -> x.best(), d -> x.thick(), d -> x.fits(0, 0), d -> x.ask(0, 1), d -> x.spots(0), d -> x.breaks(0),
                d -> x.laws(0), d -> x.by(0), d -> x.by(3), d -> x.law(), d -> x.worth(1), d -> x.share(0, 0),
                d -> x.rests(0, 1), d -> x.gets(0, 1, 1, 1), d -> x.chance(0, d, 0), d -> x.mean(d, 0),
                d -> x.drawn(8, 1), d -> x.luck(8, 2, 0), d -> x.battery(d), d -> x.hears(d));
        List<IntToLongFunction> asking = new ArrayList<>(supposing);
        asking.addAll(List.of(d -> x.leak(0, d), d -> x.joined(d), d -> x.ohms(d, 0), d -> x.amps(d, 0),
                d -> x.volts(1, d, 0), d -> x.whole(1, d), d -> x.falls(1, d, 0), d -> x.earth(1, d, 0), d -> x.sore(d),
                d -> x.silent(d), d -> x.faint(d), d -> x.when(1), d -> x.deaf(1), d -> x.longest(1), d -> x.flips(1),
                d -> x.clear(), d -> x.last(), d -> x.dim(), d -> x.sum(), d -> x.worst(d), d -> x.margin(1, d),
                d -> x.bright(), d -> x.rises(0), d -> x.ends(d), d -> x.reach(d), d -> x.both(0, 1), d -> x.apart(0, 1),
                d -> x.half(d), d -> x.grounds(d), d -> x.steep(d), d -> x.mute(), d -> x.changes(), d -> x.lack(d),
                d -> x.loud(d), d -> x.weakest(), d -> x.strong(), d -> x.batteries(), d -> x.cure(d), d -> x.without(1),
                d -> x.without(2)));
        for (int ask = 0; ask < asking.size(); ask++) {
            for (int day = 0; day < 3; day++) {
                long first = asking.get(ask).applyAsLong(day);
                for (int suppose = 0; suppose < supposing.size(); suppose++) {
                    supposing.get(suppose).applyAsLong(2);
                    due(1, "call " + ask + " of DAY " + day + " behind " + suppose, first, asking.get(ask).applyAsLong(day));
                }
            }
        }
    }
}
