import java.util.Arrays;

/** The edges of promises 53 to 74: what would help, what was read, shares, the game of two, chance. */
final class HelpEdges extends Edges {
    private static final long[][] WRONG_ROWS = {{0}, {0, 2}, {0, 2, 1, 0}, {0, 2, 1, 0, 2}, {-1, 2, 1}, {5, 2, 1}, {0, -1, 1},
        {0, 2, -1}, {0, 2, 1, 5, 2, 1}, {0, 9, 9, 0, 2, -1}, {Long.MIN_VALUE, 2, 1}, {1L << 32, 2, 1}};

    HelpEdges(Sentences s) {
        super(s);
    }

    @Override
    void all() {
        battery();
        batteries();
        cure();
        cures();
        best();
        thick();
        fits();
        lowAndHigh();
        ask();
        leaves();
        spots();
        breaks();
        laws();
        byLaw();
        worth();
        share();
        rests();
        gets();
        chance();
        mean();
    }

    private static LeakyLine needing(int ohms, int leak, int needs) {
        return Check.told("wire days 1 law 0 odds 0 volts 9; span " + ohms + " leak " + leak + " needs " + needs + ";");
    }

    private void battery() {
        s.promise(53, "BATTERY: the least VOLTS (1 .. 200) in place of those told by which all STATIONS HEAR on a DAY (1 without"
                + " STATIONS).");
        s.due("battery(0) of 50 by 1 / 4", 200, needing(3, 1, 50).battery(0));
        s.due("battery(0) of 0", 1, needing(3, 1, 0).battery(0));
        s.due("battery(0) of 1 by 30 / 31", 2, needing(1, 30, 1).battery(0));
        s.due("battery(0) of 1 by 1 / 13", 13, needing(12, 1, 1).battery(0));
        s.due("battery(0) of PLAIN: 10 and 12", 12, Check.told(Wires.PLAIN).battery(0));
        s.due("battery(0), 60 told", 12, Check.told(Wires.PLAIN.replace("volts 10", "volts 60")).battery(0));
        s.due("battery(0) without STATIONS", 1, Check.told(Wires.NO_STATIONS).battery(0));
        s.due("battery(0) without POLES", 1, Check.told(Wires.NO_SPANS).battery(0));
        LeakyLine x = Check.told(Wires.LONG);
        x.snaps(0, 0);
        s.due("battery(0), broken, of 0", 1, x.battery(0));
        s.promise(53, "NONE: by none;");
        s.due("battery(0) of 51 by 1 / 4: 204", -1, needing(3, 1, 51).battery(0));
        s.due("battery(0) of 59 by 5 / 17: 200.6", -1, needing(12, 5, 59).battery(0));
        x = needing(1, 30, 1);
        x.snaps(0, 1);
        s.due("battery(0), not broken yet", 2, x.battery(0));
        s.due("battery(1), broken", -1, x.battery(1));
        s.promise(53, "-2: there is no such DAY, no WIRE.");
        days("battery()", Check.told(Wires.PLAIN)::battery);
        s.due("battery(3) without STATIONS", -2, Check.told(Wires.NO_STATIONS).battery(3));
        noWire("battery(0)", -2, z -> z.battery(0));
    }

    private void batteries() {
        s.promise(54, "The least by which they do on all DAYS.");
        String told = "wire days 2 law 1 odds 0 volts 12; span 1 leak 5 needs 10;";
        s.due("batteries(), all alike", 12, Check.told(told).batteries());
        s.due("batteries(), the first DAY", 15, Check.told(told + "wet 0;").batteries());
        s.due("batteries(), the last DAY", 15, Check.told(told + "wet 2;").batteries());
        s.due("batteries() of 200", 200, needing(3, 1, 50).batteries());
        s.due("batteries() of who need 0", 1, Check.told(Wires.LONG).batteries());
        s.due("batteries() without STATIONS", 1, Check.told(Wires.NO_STATIONS).batteries());
        s.due("batteries() without POLES", 1, Check.told(Wires.NO_SPANS).batteries());
        s.promise(54, "NONE: by none;");
        s.due("batteries() of 201", -1, needing(12, 5, 59).batteries());
        LeakyLine x = Check.told(told);
        x.snaps(0, 2);
        s.due("batteries(), broken on the last DAY", -1, x.batteries());
        s.promise(54, "-2: there is no WIRE.");
        noWire("batteries()", -2, LeakyLine::batteries);
    }

    /** POLE 2 alone will do, and POLES 0 and 1 together; neither of these alone. */
    private static final String ONE_OR_TWO =
            "wire days 1 law 0 odds 0 volts 30; span 1 leak 9; span 1 leak 9; span 1 leak 1 needs 7;";

    private void cure() {
        s.promise(55, "CURE: the fewest POLES to be CUPPED on DAY 0 (besides, ahead of acts) so that all STATIONS HEAR on a DAY.");
        s.due("cure(0), none is needed", 0, Check.told(Wires.LONG).cure(0));
        s.due("cure(0), one of two", 1, Check.told(Wires.PLAIN).cure(0));
        s.due("cure(0), one, not two", 1, Check.told(ONE_OR_TWO).cure(0));
        s.due("cure(0), both", 2, Check.told("wire days 1 law 0 odds 0 volts 10; span 1 leak 1; span 1 leak 1 needs 8;").cure(0));
        LeakyLine five = Check.told("wire days 1 law 0 odds 0 volts 60; span 1 leak 1; span 1 leak 1; span 1 leak 1; span 1 leak 1;"
                + "span 1 leak 1 needs 38;");
        s.due("cure(0), all five", 5, five.cure(0));
        s.due("cure(0) without STATIONS", 0, Check.told(Wires.NO_STATIONS).cure(0));
        s.due("cure(0) without POLES", 0, Check.told(Wires.NO_SPANS).cure(0));
        LeakyLine x = Check.told(Wires.PLAIN);
        x.cups(0, 4);
        s.due("cure(4), an act besides", 0, x.cure(4));
        s.due("cure(3), ahead of the act", 1, x.cure(3));
        s.promise(55, "NONE: by none;");
        x = Check.told(Wires.PLAIN);
        x.snaps(1, 2);
        s.due("cure(1)", 1, x.cure(1));
        s.due("cure(2), broken", -1, x.cure(2));
        x = Check.told(Wires.PLAIN);
        x.rate(1, 10);
        s.due("cure(0), it needs too much", -1, x.cure(0));
        s.promise(55, "-2: there is no such DAY, no WIRE.");
        days("cure()", Check.told(Wires.PLAIN)::cure);
        s.due("cure(3) without STATIONS", -2, Check.told(Wires.NO_STATIONS).cure(3));
        noWire("cure(0)", -2, z -> z.cure(0));
    }

    private void cures() {
        s.promise(56, "The least set of so few, as bits.");
        s.due("cures(0), none is needed", 0, Check.told(Wires.LONG).cures(0));
        s.due("cures(0), 1 or 2", 1, Check.told(Wires.PLAIN).cures(0));
        s.due("cures(0), 4, not 3", 4, Check.told(ONE_OR_TWO).cures(0));
        LeakyLine x = Check.told(ONE_OR_TWO);
        x.cups(2, 1);
        s.due("cures(1), an act besides", 0, x.cures(1));
        s.due("cures(0) without STATIONS", 0, Check.told(Wires.NO_STATIONS).cures(0));
        s.promise(56, "NONE, -2 likewise.");
        x = Check.told(Wires.PLAIN);
        x.snaps(1, 2);
        s.due("cures(1)", 1, x.cures(1));
        s.due("cures(2), broken", -1, x.cures(2));
        days("cures()", Check.told(Wires.PLAIN)::cures);
        noWire("cures(0)", -2, z -> z.cures(0));
    }

    private void best() {
        s.promise(57, "The POLE that, so CUPPED alone, makes sum() most, if more than now, the first of several.");
        s.due("best(), two alike", 0, Check.told(Wires.PLAIN).best());
        s.due("best(), the last", 2, Check.told(ONE_OR_TWO).best());
        // 5.5 and 2.7; POLE 0 CUPPED 6.5 and 3.3, POLE 1 CUPPED 7.3 and 7.1
        LeakyLine x = Check.told("wire days 1 law 0 odds 0 volts 10; span 1 leak 3 needs 6; span 1 leak 1 needs 6;");
        s.due("worth(1)", 2, x.worth(1));
        s.due("worth(2)", 4, x.worth(2));
        s.due("best(), the most, not the first", 1, x.best());
        s.promise(57, "NONE: none;");
        s.due("best(), all HEAR now", -1, Check.told(Wires.LONG).best());
        s.due("best(), none alone", -1,
                Check.told("wire days 1 law 0 odds 0 volts 10; span 1 leak 1; span 1 leak 1 needs 8;").best());
        s.due("best() without STATIONS", -1, Check.told(Wires.NO_STATIONS).best());
        s.due("best() without POLES", -1, Check.told(Wires.NO_SPANS).best());
        s.promise(57, "-2: there is no WIRE.");
        noWire("best()", -2, LeakyLine::best);
    }

    private void thick() {
        s.promise(58, "The SPAN that, of 1 ohm in place of its own, makes sum() most, if more than now, the first of several.");
        // 50 / 11 and 10 / 11; SPAN 0 of 1: 6.25 and 1.25; SPAN 1 of 1: 3.75 and 2.5
        LeakyLine x = Check.told("wire days 1 law 0 odds 0 volts 10; span 2 leak 2 needs 5; span 8 leak 2 needs 2;");
        s.due("thick(), two alike", 0, x.thick());
        x.rate(0, 7);
        s.due("thick(), the last", 1, x.thick());
        x.rate(0, 3);
        x.rate(1, 2);
        s.due("thick(), SPAN 1 alone wins", 1, x.thick());
        s.due("span(1, 0) stays", 8, x.span(1, 0));
        s.promise(58, "NONE, -2 likewise.");
        s.due("thick(), all of 1 ohm", -1, Check.told(Wires.PLAIN).thick());
        x.rate(0, 60);
        x.rate(1, 60);
        s.due("thick(), too much is needed", -1, x.thick());
        s.due("thick() without STATIONS", -1, Check.told(Wires.NO_STATIONS).thick());
        s.due("thick() without SPANS", -1, Check.told(Wires.NO_SPANS).thick());
        noWire("thick()", -2, LeakyLine::thick);
    }

    interface OfSlot {
        long of(LeakyLine x, int slot);
    }

    /** PLAIN, whose SLOT 0 tells what it READS, SLOT 1 a row of none; 2 and 3 have nothing. */
    private static LeakyLine read() {
        LeakyLine x = Check.told(Wires.PLAIN);
        Check.row(x, 0, 3, 0, 2, 1);
        x.row(1, 3, 0);
        return x;
    }

    private void wrongRows(String call, OfSlot f) {
        LeakyLine x = read();
        for (int slot : new int[] {Integer.MIN_VALUE, -1, 4, 5, 32, Integer.MAX_VALUE}) {
            s.due(call + " of SLOT " + slot, -2, f.of(x, slot));
        }
        s.holds(call + " of SLOT 0 is no refusal", f.of(x, 0) != -2);
        for (long[] row : WRONG_ROWS) {
            Check.row(x, 3, 3, row);
            s.due(call + " of " + Arrays.toString(row), -2, f.of(x, 3));
        }
        LeakyLine none = new LeakyLine();
        s.due(call + " of nothing without a WIRE", -2, f.of(none, 0));
        none.row(0, 3, 0);
        s.due(call + " of a row without a WIRE", -2, f.of(none, 0));
    }

    private void nothing(String call, OfSlot f) {
        LeakyLine x = read();
        s.due(call + " of SLOT 2", -6, f.of(x, 2));
        s.due(call + " of SLOT 3", -6, f.of(x, 3));
        s.holds(call + " of a row of none is no refusal", f.of(x, 1) != -6);
    }

    private void poleRefused(String call, OfPole f) {
        LeakyLine x = read();
        poles(call, -2, pole -> f.of(x, pole));
        LeakyLine none = Check.told(Wires.NO_SPANS);
        none.row(0, 0, 0);
        s.due(call + " without POLES", -2, f.of(none, 0));
    }

    private void fits() {
        s.promise(59, "SEEN (V): how many leaks (1 .. 30) a POLE can have been told by a SLOT's row.");
        LeakyLine x = read();
        s.due("fits(0, 0), the one told", 1, x.fits(0, 0));
        s.due("fits(1, 0) of a row of none: all", 30, x.fits(1, 0));
        Check.row(x, 2, 1, 0, 9, 9);
        s.due("fits(2, 0), none", 0, x.fits(2, 0));
        // 1 + (2 || (1 + 30)) = 95 / 33
        Check.row(x, 2, 1, 4, 95, 33);
        s.due("fits(2, 1), 30 alone", 1, x.fits(2, 1));
        s.due("low(2, 1)", 30, x.low(2, 1));
        // 1 + (1 || 2) = 5 / 3
        Check.row(x, 2, 1, 4, 5, 3);
        s.due("fits(2, 0), 1 alone", 1, x.fits(2, 0));
        s.due("low(2, 0)", 1, x.low(2, 0));
        x.row(3, 0, 60);
        for (int i = 0; i < 20; i++) {
            x.write(3, 3 * i, i % 5);
            x.write(3, 3 * i + 1, 2);
            x.write(3, 3 * i + 2, 1);
        }
        s.due("fits(3, 0) of a full row", 1, x.fits(3, 0));
        x.write(3, 58, 3);
        s.due("fits(3, 0), the last reading is another", 0, x.fits(3, 0));
        s.promise(59, "-2: there is no such SLOT, POLE, a number is none such (asked last), not three each;");
        wrongRows("fits(.., 0)", (z, slot) -> z.fits(slot, 0));
        poleRefused("fits(0, ..)", (z, pole) -> z.fits(0, pole));
        s.due("fits(2, 2) of nothing, no such POLE", -2, read().fits(2, 2));
        s.promise(59, "-6: it has nothing.");
        nothing("fits(.., 0)", (z, slot) -> z.fits(slot, 0));
    }

    private void lowAndHigh() {
        LeakyLine x = read();
        // a WET DAY leaves 1 of 1, 2 and 3
        LeakyLine wet = Check.told("wire days 1 law 1 odds 5 volts 9; span 1 leak 7; wet 0;");
        Check.row(wet, 0, 0, 0, 2, 1);
        s.promise(60, "The least of these.");
        s.due("low(1, 0) of all", 1, x.low(1, 0));
        s.due("low(0, 0) of one", 2, x.low(0, 0));
        s.due("low(0, 0) of 1, 2 and 3", 1, wet.low(0, 0));
        Check.row(x, 2, 1, 0, 9, 9);
        s.promise(60, "NONE: there is none;");
        s.due("low(2, 0)", -1, x.low(2, 0));
        s.promise(60, "-2, -6 likewise.");
        wrongRows("low(.., 0)", (z, slot) -> z.low(slot, 0));
        poleRefused("low(0, ..)", (z, pole) -> z.low(0, pole));
        nothing("low(.., 0)", (z, slot) -> z.low(slot, 0));
        s.promise(61, "The greatest.");
        s.due("high(1, 0) of all", 30, x.high(1, 0));
        s.due("high(0, 0) of one", 2, x.high(0, 0));
        s.due("high(0, 0) of 1, 2 and 3", 3, wet.high(0, 0));
        s.promise(61, "NONE, -2, -6 likewise.");
        s.due("high(2, 0)", -1, x.high(2, 0));
        wrongRows("high(.., 0)", (z, slot) -> z.high(slot, 0));
        poleRefused("high(0, ..)", (z, pole) -> z.high(0, pole));
        nothing("high(.., 0)", (z, slot) -> z.high(slot, 0));
    }

    /** DAY 0 is dry, 1 and 3 are WET; from DAY 2 on CUPPED: DAY 0 tells all, DAY 1 leaves three, DAYS 2 and 3 tell nothing. */
    private static LeakyLine asking(String wets) {
        LeakyLine x = Check.told("wire days 3 law 1 odds 5 volts 9; span 1 leak 7;" + wets);
        x.cups(0, 2);
        x.row(0, 0, 0);
        return x;
    }

    private void ask() {
        s.promise(62, "The DAY of which to know what it READS leaves fewest of these at worst, if fewer than now, the first of"
                + " several.");
        s.due("ask(0, 0), DAY 0", 0, asking("wet 1; wet 3;").ask(0, 0));
        s.due("ask(0, 0), not the WET one", 1, asking("wet 0; wet 3;").ask(0, 0));
        s.due("ask(0, 0), two alike", 0, asking("").ask(0, 0));
        s.due("ask(0, 0), two alike, WET", 0, asking("wet 0; wet 1;").ask(0, 0));
        LeakyLine last = Check.told("wire days 2 law 1 odds 5 volts 9; span 1 leak 7; wet 0; wet 1;");
        last.row(0, 0, 0);
        s.due("ask(0, 0), the last DAY", 2, last.ask(0, 0));
        s.promise(62, "NONE: none;");
        LeakyLine x = read();
        s.due("ask(0, 0): one is left already", -1, x.ask(0, 0));
        Check.row(x, 2, 1, 0, 23, 8);
        s.due("ask(2, 0): 30 is left already", -1, x.ask(2, 0));
        Check.row(x, 2, 1, 0, 9, 9);
        s.due("ask(2, 0): none is left already", -1, x.ask(2, 0));
        x.cups(0, 0);
        s.due("ask(1, 0): CUPPED from DAY 0 on", -1, x.ask(1, 0));
        LeakyLine wet = asking("wet 0; wet 1;");
        Check.row(wet, 0, 0, 0, 2, 1);
        s.due("ask(0, 0): the three stay together", -1, wet.ask(0, 0));
        s.promise(62, "-2, -6 likewise.");
        wrongRows("ask(.., 0)", (z, slot) -> z.ask(slot, 0));
        poleRefused("ask(0, ..)", (z, pole) -> z.ask(0, pole));
        nothing("ask(.., 0)", (z, slot) -> z.ask(slot, 0));
    }

    private void leaves() {
        s.promise(63, "How many it leaves at worst (as now without).");
        s.due("leaves(0, 0)", 1, asking("wet 1; wet 3;").leaves(0, 0));
        s.due("leaves(0, 0): 1, 2 and 3 at worst", 3, asking("wet 0; wet 1;").leaves(0, 0));
        LeakyLine x = read();
        s.due("leaves(0, 0), as now", 1, x.leaves(0, 0));
        // 1 tells 5 / 3, 6 tells 5 / 2
        s.due("leaves(1, 0): above and below tell each of all", 1, x.leaves(1, 0));
        Check.row(x, 2, 1, 0, 9, 9);
        s.due("leaves(2, 0), as now: none", 0, x.leaves(2, 0));
        x.snaps(0, 0);
        s.due("leaves(1, 0), as now: all", 30, x.leaves(1, 0));
        s.promise(63, "-2, -6 likewise.");
        wrongRows("leaves(.., 0)", (z, slot) -> z.leaves(slot, 0));
        poleRefused("leaves(0, ..)", (z, pole) -> z.leaves(0, pole));
        nothing("leaves(.., 0)", (z, slot) -> z.leaves(slot, 0));
    }

    private void spots() {
        s.promise(64, "POLES of which some leak (1 .. 30) other than that told fits such a row, as bits.");
        LeakyLine x = read();
        s.due("spots(0): that told alone", 0, x.spots(0));
        s.due("spots(1) of a row of none: all", 3, x.spots(1));
        Check.row(x, 2, 1, 0, 5, 2);
        s.due("spots(2): 6 at POLE 0, 5 at POLE 1", 3, x.spots(2));
        // L at POLE 0 is as L - 1 at POLE 1, so that 1 at POLE 0 and 30 at POLE 1 stand alone
        Check.row(x, 2, 1, 0, 5, 3);
        s.due("spots(2): 1 at POLE 0", 1, x.spots(2));
        Check.row(x, 2, 1, 0, 95, 33);
        s.due("spots(2): 30 at POLE 1", 2, x.spots(2));
        LeakyLine five = Check.told(Wires.LONG);
        five.row(0, 0, 0);
        s.due("spots(0), all five", 31, five.spots(0));
        LeakyLine none = Check.told(Wires.NO_SPANS);
        none.row(0, 0, 0);
        s.due("spots(0) without POLES", 0, none.spots(0));
        s.promise(64, "-2 (POLE aside; no WIRE), -6 likewise.");
        wrongRows("spots()", LeakyLine::spots);
        nothing("spots()", LeakyLine::spots);
    }

    private void breaks() {
        s.promise(65, "SPANS by which it is as such a row tells, if one is broken from DAY 0 on (besides those of acts), as bits.");
        LeakyLine x = read();
        s.due("breaks(0): none", 0, x.breaks(0));
        s.due("breaks(1) of a row of none: all", 3, x.breaks(1));
        Check.row(x, 2, 1, 0, 3, 1);
        s.due("breaks(2): SPAN 1", 2, x.breaks(2));
        Check.row(x, 2, 1, 0, 1, 0);
        s.due("breaks(2): SPAN 0", 1, x.breaks(2));
        Check.row(x, 2, 1, 4, 1, 0);
        x.snaps(0, 4);
        s.due("breaks(2): SPAN 0 by an act, either besides", 3, x.breaks(2));
        LeakyLine none = Check.told(Wires.NO_SPANS);
        none.row(0, 0, 0);
        s.due("breaks(0) without SPANS", 0, none.breaks(0));
        s.promise(65, "-2, -6 as spots().");
        wrongRows("breaks()", LeakyLine::breaks);
        nothing("breaks()", LeakyLine::breaks);
    }

    private void laws() {
        s.promise(66, "LAWS (0 .. 3) by which it is as such a row tells, as bits.");
        LeakyLine x = read();
        s.due("laws(0), dry: all", 15, x.laws(0));
        s.due("laws(1) of a row of none: all", 15, x.laws(1));
        Check.row(x, 2, 1, 0, 9, 9);
        s.due("laws(2): none", 0, x.laws(2));
        LeakyLine wet = Check.told(Wires.wet(0, 5));
        Check.row(wet, 0, 1, 1, 6, 1);
        s.due("laws(0): LEAK 5 on a WET DAY", 1, wet.laws(0));
        Check.row(wet, 0, 1, 1, 3, 1);
        s.due("laws(0): LEAK 2 on a WET DAY", 6, wet.laws(0));
        Check.row(wet, 0, 1, 3, 3, 1);
        s.due("laws(0): LEAK 2 behind it", 4, wet.laws(0));
        Check.row(wet, 0, 1, 1, 5, 1);
        s.due("laws(0): LEAK 4 on a WET DAY", 8, wet.laws(0));
        s.promise(66, "-2, -6 as spots().");
        wrongRows("laws()", LeakyLine::laws);
        nothing("laws()", LeakyLine::laws);
    }

    private void byLaw() {
        s.promise(67, "sum() by a LAW in place of the one told.");
        int[] sums = {6, 4, 3, 1};
        for (int told = 0; told < 4; told++) {
            LeakyLine x = Check.told(Wires.wet(told, 5));
            for (int law = 0; law < 4; law++) {
                s.due("by(" + law + "), LAW " + told + " told", sums[law], x.by(law));
            }
            s.due("count(1) stays", told, x.count(1));
        }
        s.promise(67, "-2: there is none such, no WIRE.");
        s.refusedBeyond("by()", -2, 0, 3, Check.told(Wires.PLAIN)::by);
        noWire("by(0)", -2, z -> z.by(0));
        s.promise(68, "The LAW by which it is most, the least of several.");
        for (int told = 0; told < 4; told++) {
            s.due("law(), LAW " + told + " told", 0, Check.told(Wires.wet(told, 5)).law());
            s.due("law(), all alike", 0, Check.told(Wires.LONG.replace("law 0", "law " + told)).law());
        }
        s.due("law() without STATIONS", 0, Check.told(Wires.NO_STATIONS).law());
        // LEAK 20: 40 VOLTS; 19 by LAW 3: 39.9; 10 by LAW 1: 38.2
        LeakyLine two = Check.told("wire days 2 law 1 odds 0 volts 42; span 1 leak 20 needs 39; wet 0;");
        int[] by = {3, 2, 1, 3};
        for (int law = 0; law < 4; law++) {
            s.due("by(" + law + ")", by[law], two.by(law));
        }
        s.due("law(), 0 and 3 alike", 0, two.law());
        s.promise(68, "-2: there is no WIRE.");
        noWire("law()", -2, LeakyLine::law);
    }

    private void worth() {
        s.promise(69, "WORTH (VI) of a set of POLES (bits).");
        LeakyLine x = Check.told(Wires.PLAIN);
        int[] worths = {5, 10, 10, 10};
        for (int set = 0; set < 4; set++) {
            s.due("worth(" + set + ")", worths[set], x.worth(set));
        }
        LeakyLine five = Check.told("wire days 1 law 0 odds 0 volts 60; span 1 leak 1; span 1 leak 1; span 1 leak 1; span 1 leak 1;"
                + "span 1 leak 1 needs 38;");
        s.due("worth(15), all but the last", 0, five.worth(15));
        s.due("worth(31), all", 2, five.worth(31));
        s.promise(69, "-2: there is no such set, no WIRE.");
        s.refusedBeyond("worth() of two POLES", -2, 0, 3, x::worth);
        s.refusedBeyond("worth() of five POLES", -2, 0, 31, five::worth);
        s.refusedBeyond("worth() without POLES", -2, 0, 0, Check.told(Wires.NO_SPANS)::worth);
        noWire("worth(0)", -2, z -> z.worth(0));
    }

    private void share() {
        s.promise(70, "SHARE (VI) of a POLE, above (what 0; below 0, too), below (1).");
        LeakyLine x = Check.told(Wires.PLAIN);
        fraction("share(0)", 5, 2, x.share(0, 0), x.share(0, 1));
        x.rate(0, 60);
        x.rate(1, 60);
        fraction("share(0) of nothing", 0, 1, x.share(0, 0), x.share(0, 1));
        // all five together alone help, by 2 DAYS
        LeakyLine five = Check.told("wire days 1 law 0 odds 0 volts 60; span 1 leak 1; span 1 leak 1; span 1 leak 1; span 1 leak 1;"
                + "span 1 leak 1 needs 38;");
        fraction("share(4) of five", 2, 5, five.share(4, 0), five.share(4, 1));
        // POLE 2 first, or behind one other: 4 of 6 orders; POLE 0 between 1 and 2: 1 of 6
        LeakyLine three = Check.told(ONE_OR_TWO);
        fraction("share(2) of three", 4, 3, three.share(2, 0), three.share(2, 1));
        fraction("share(0) of three", 1, 3, three.share(0, 0), three.share(0, 1));
        fraction("share(1) of three", 1, 3, three.share(1, 0), three.share(1, 1));
        LeakyLine one = Check.told("wire days 13 law 0 odds 0 volts 12; span 1 leak 5 needs 11; span 1 leak 30;");
        one.snaps(1, 0);
        fraction("share(0) of all", 14, 1, one.share(0, 0), one.share(0, 1));
        fraction("share(1) of nothing", 0, 1, one.share(1, 0), one.share(1, 1));
        s.promise(70, "-1,000,000: there are none such.");
        LeakyLine y = Check.told(Wires.PLAIN);
        poles("share(.., 0)", -1000000, pole -> y.share(pole, 0));
        parts("share(0, ..)", -1000000, what -> y.share(0, what));
        s.due("share(0, 0) without POLES", -1000000, Check.told(Wires.NO_SPANS).share(0, 0));
        noWire("share(0, 0)", -1000000, z -> z.share(0, 0));
    }

    private void rests() {
        s.promise(71, "GAME (VII): pairs of choices of two POLES at REST, as bits: 1 neither is CUPPED, 2 the first one is, 4 the"
                + " other one, 8 both.");
        s.due("rests(0, 1), the other one", 4, Check.told(Wires.PLAIN).rests(0, 1));
        s.due("rests(1, 0), the first one", 2, Check.told(Wires.PLAIN).rests(1, 0));
        s.due("rests(0, 1), neither", 1, Check.told(Wires.NO_STATIONS).rests(0, 1));
        s.due("rests(0, 1), neither or both", 9,
                Check.told("wire days 4 law 0 odds 0 volts 10; span 1 leak 2 needs 9; span 1 leak 2 needs 8;").rests(0, 1));
        s.due("rests(4, 0), far apart, neither", 1, Check.told(Wires.LONG).rests(4, 0));
        LeakyLine even = Check.told("wire days 1 law 0 odds 0 volts 10; span 1 leak 1 needs 8; span 12 leak 1;");
        s.due("rests(0, 1), the first one or neither", 3, even.rests(0, 1));
        s.due("rests(1, 0), the other one or neither", 5, even.rests(1, 0));
        s.promise(71, "-2: there are none such, one twice.");
        LeakyLine y = Check.told(Wires.PLAIN);
        s.refusedBeyond("rests(.., 0)", -2, 1, 1, pole -> y.rests(pole, 0));
        s.refusedBeyond("rests(0, ..)", -2, 1, 1, pole -> y.rests(0, pole));
        s.due("rests(1, 1)", -2, y.rests(1, 1));
        s.due("rests(2, 3)", -2, y.rests(2, 3));
        s.due("rests(0, 1) of one POLE", -2, Check.told(Wires.wet(0, 0)).rests(0, 1));
        noWire("rests(0, 1)", -2, z -> z.rests(0, 1));
    }

    private void gets() {
        s.promise(72, "What the first of two GETS by the choices (1 it is CUPPED, 0 not; below 0, too).");
        LeakyLine y = Check.told(Wires.PLAIN);
        int[][] want = {{0, 0, 5, 0}, {1, 0, 3, 3}, {0, 1, 5, 5}, {1, 1, 3, 3}};
        for (int[] w : want) {
            s.due("gets(0, 1, " + w[0] + ", " + w[1] + ")", w[2], y.gets(0, 1, w[0], w[1]));
            s.due("gets(1, 0, " + w[0] + ", " + w[1] + ")", w[3], y.gets(1, 0, w[0], w[1]));
        }
        LeakyLine none = Check.told(Wires.NO_STATIONS);
        s.due("gets(0, 1, 1, 0), below 0", -2, none.gets(0, 1, 1, 0));
        LeakyLine short1 = Check.told("wire days 1 law 0 odds 0 volts 10; span 1 leak 9 needs 60; span 1 leak 9;");
        s.due("gets(0, 1, 1, 1), below 0", -2, short1.gets(0, 1, 1, 1));
        s.due("gets(4, 0, 0, 0), the most", 14, Check.told(Wires.LONG).gets(4, 0, 0, 0));
        s.promise(72, "-1,000: there are none such, one twice.");
        s.refusedBeyond("gets(.., 0, 0, 0)", -1000, 1, 1, pole -> y.gets(pole, 0, 0, 0));
        s.refusedBeyond("gets(0, .., 0, 0)", -1000, 1, 1, pole -> y.gets(0, pole, 0, 0));
        parts("gets(0, 1, .., 0)", -1000, cupped -> y.gets(0, 1, cupped, 0));
        parts("gets(0, 1, 0, ..)", -1000, cupped -> y.gets(0, 1, 0, cupped));
        s.due("gets(1, 1, 0, 0)", -1000, y.gets(1, 1, 0, 0));
        noWire("gets(0, 1, 0, 0)", -1000, z -> z.gets(0, 1, 0, 0));
    }

    private void chance() {
        s.promise(73, "CHANCE (VIII): that a STATION HEARS on a DAY (0 .. 7, one there is), above (what 0), below (1).");
        LeakyLine x = Check.told("wire days 13 law 3 odds 3 volts 12; span 1 leak 5 needs 10;");
        fraction("chance(0, 0)", 7, 10, x.chance(0, 0, 0), x.chance(0, 0, 1));
        fraction("chance(0, 7): 7 of 10, eight times", 5764801, 100000000, x.chance(0, 7, 0), x.chance(0, 7, 1));
        LeakyLine never = Check.told("wire days 13 law 3 odds 10 volts 12; span 1 leak 5 needs 10;");
        fraction("chance(0, 7) by odds 10", 0, 1, never.chance(0, 7, 0), never.chance(0, 7, 1));
        LeakyLine always = Check.told("wire days 13 law 3 odds 0 volts 12; span 1 leak 5 needs 10;");
        fraction("chance(0, 7) by odds 0", 1, 1, always.chance(0, 7, 0), always.chance(0, 7, 1));
        LeakyLine dayOne = Check.told("wire days 1 law 1 odds 9 volts 12; span 1 leak 5 needs 10;");
        fraction("chance(0, 1), the last there is", 1, 10, dayOne.chance(0, 1, 0), dayOne.chance(0, 1, 1));
        s.promise(73, "-2: there are none such.");
        stations("chance(.., 0, 0)", (z, pole) -> z.chance(pole, 0, 0));
        LeakyLine y = Check.told(Wires.PLAIN);
        days("chance(0, .., 0)", day -> y.chance(0, day, 0));
        s.refusedBeyond("chance(0, .., 0) of 13 DAYS", -2, 0, 7, day -> x.chance(0, day, 0));
        parts("chance(0, 0, ..)", -2, what -> y.chance(0, 0, what));
    }

    private void mean() {
        s.promise(74, "The mean of how many STATIONS HEAR on such a DAY, above, below.");
        LeakyLine x = Check.told("wire days 13 law 3 odds 3 volts 12; span 1 leak 5 needs 10;");
        fraction("mean(0)", 7, 10, x.mean(0, 0), x.mean(0, 1));
        fraction("mean(7)", 5764801, 100000000, x.mean(7, 0), x.mean(7, 1));
        LeakyLine five = Check.told(Wires.LONG);
        fraction("mean(7), all five", 5, 1, five.mean(7, 0), five.mean(7, 1));
        LeakyLine none = Check.told(Wires.NO_STATIONS);
        fraction("mean(2) without STATIONS", 0, 1, none.mean(2, 0), none.mean(2, 1));
        LeakyLine empty = Check.told(Wires.NO_SPANS);
        fraction("mean(3) without POLES", 0, 1, empty.mean(3, 0), empty.mean(3, 1));
        s.promise(74, "-2: there are none such, no WIRE.");
        LeakyLine y = Check.told(Wires.PLAIN);
        days("mean(.., 0)", day -> y.mean(day, 0));
        s.refusedBeyond("mean(.., 1) of 13 DAYS", -2, 0, 7, day -> x.mean(day, 1));
        parts("mean(0, ..)", -2, what -> y.mean(0, what));
        noWire("mean(0, 0)", -2, z -> z.mean(0, 0));
    }
}
