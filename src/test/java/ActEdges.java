import java.math.BigInteger;

/** The edges of promises 75 to 87: acts, days drawn, counts, IMAGES, SLOTS. */
final class ActEdges extends Edges {
    ActEdges(Sentences s) {
        super(s);
    }

    @Override
    void all() {
        cups();
        snaps();
        undo();
        anew();
        drawn();
        luck();
        rate();
        count();
        image();
        back();
        row();
        write();
        paste();
        pasteRefused();
    }

    private static LeakyLine acted(int acts) {
        LeakyLine x = Check.told(Wires.PLAIN);
        for (int i = 0; i < acts; i++) {
            x.cups(0, 4);
        }
        return x;
    }

    private void cups() {
        s.promise(75, "A POLE is CUPPED on a DAY (III): its LEAK on the last one then.");
        LeakyLine x = Check.told(Wires.pole(3, 3, 9, "wet 1; wet 3;"));
        s.due("cups(0, 3), the last DAY itself", 29, x.cups(0, 3));
        s.due("cups(0, 0): the later one counts", 29, x.cups(0, 0));
        x.anew();
        s.due("cups(0, 0)", 28, x.cups(0, 0));
        s.due("leak(0, 0)", 30, x.leak(0, 0));
        s.due("count(6)", 1, x.count(6));
        s.due("cups(0, 0), the same again is an act", 28, x.cups(0, 0));
        s.due("count(6)", 2, x.count(6));
        x.snaps(0, 0);
        s.due("cups(0, 2), broken or not", 29, x.cups(0, 2));
        s.promise(75, "-2: there are none such;");
        LeakyLine y = Check.told(Wires.PLAIN);
        poles("cups(.., 0)", -2, pole -> y.cups(pole, 0));
        days("cups(0, ..)", day -> y.cups(0, day));
        s.due("count(6): what was refused is no act", 4, y.count(6));
        s.due("cups(0, 0) without POLES", -2, Check.told(Wires.NO_SPANS).cups(0, 0));
        noWire("cups(0, 0)", -2, z -> z.cups(0, 0));
        s.promise(75, "-5: there were 30 acts.");
        x = acted(29);
        s.due("cups(1, 0), the 30th", 30, x.cups(1, 0));
        s.due("cups(0, 0), a 31st", -5, x.cups(0, 0));
        s.due("count(6)", 30, x.count(6));
        s.due("leak(0, 0): it is not done", 2, x.leak(0, 0));
        x.undo();
        s.due("cups(0, 0) behind undo()", 30, x.cups(0, 0));
        s.due("leak(0, 0): it is done", 30, x.leak(0, 0));
    }

    private void snaps() {
        s.promise(76, "A SPAN is broken from a DAY on (III): joined() of the last one then.");
        LeakyLine x = Check.told(Wires.LONG);
        x.without(1);
        s.due("snaps(4, 13), the last DAY itself", 4, x.snaps(4, 13));
        s.due("joined(12)", 5, x.joined(12));
        s.due("snaps(2, 0)", 2, x.snaps(2, 0));
        s.due("snaps(3, 0): behind what is broken", 2, x.snaps(3, 0));
        s.due("snaps(0, 13)", 0, x.snaps(0, 13));
        s.due("joined(12)", 2, x.joined(12));
        s.due("snaps(0, 13), the same again is an act", 0, x.snaps(0, 13));
        s.due("count(6)", 5, x.count(6));
        s.promise(76, "-2, -5 likewise.");
        LeakyLine y = Check.told(Wires.PLAIN);
        poles("snaps(.., 0)", -2, span -> y.snaps(span, 0));
        days("snaps(0, ..)", day -> y.snaps(0, day));
        s.due("count(6): what was refused is no act", 4, y.count(6));
        s.due("snaps(0, 0) without SPANS", -2, Check.told(Wires.NO_SPANS).snaps(0, 0));
        noWire("snaps(0, 0)", -2, z -> z.snaps(0, 0));
        x = acted(29);
        s.due("snaps(1, 0), the 30th", 1, x.snaps(1, 0));
        s.due("snaps(0, 0), a 31st", -5, x.snaps(0, 0));
        s.due("joined(0): it is not done", 1, x.joined(0));
        s.due("count(6)", 30, x.count(6));
        x.anew();
        s.due("snaps(0, 4) behind anew()", 0, x.snaps(0, 4));
    }

    private void undo() {
        s.promise(77, "The latest act is taken back: how many there are.");
        LeakyLine x = Check.told(Wires.PLAIN);
        x.cups(0, 1);
        x.snaps(1, 2);
        x.cups(0, 1);
        s.due("undo()", 2, x.undo());
        s.due("cupped(0, 4): the first of two alike stays", 1, x.cupped(0, 4));
        s.due("undo()", 1, x.undo());
        s.due("snapped(1)", -1, x.snapped(1));
        s.due("undo(), the last", 0, x.undo());
        s.due("cupped(0, 4)", -1, x.cupped(0, 4));
        s.due("undo() of 30", 29, acted(30).undo());
        s.promise(77, "-5: there is none;");
        s.due("undo()", -5, x.undo());
        s.due("undo() of a new WIRE", -5, Check.told(Wires.PLAIN).undo());
        s.due("undo() without POLES", -5, Check.told(Wires.NO_SPANS).undo());
        x.cups(0, 0);
        x.anew();
        s.due("undo() behind anew()", -5, x.undo());
        s.promise(77, "-2: there is no WIRE.");
        noWire("undo()", -2, LeakyLine::undo);
    }

    private void anew() {
        s.promise(78, "All are: how many there were.");
        LeakyLine x = Check.told(Wires.PLAIN);
        s.due("anew() of none", 0, x.anew());
        x.rate(0, 4);
        x.cups(0, 1);
        x.snaps(1, 0);
        s.due("anew()", 2, x.anew());
        s.due("count(6)", 0, x.count(6));
        s.due("leak(0, 4)", 2, x.leak(0, 4));
        s.due("joined(0)", 2, x.joined(0));
        s.due("span(0, 2): what rate() told is no act", 4, x.span(0, 2));
        s.due("anew() again", 0, x.anew());
        s.due("anew() of 30", 30, acted(30).anew());
        s.promise(78, "-2 likewise.");
        noWire("anew()", -2, LeakyLine::anew);
    }

    private void drawn() {
        s.promise(79, "Days drawn (VIII) from a seed (0 .. 2,000,000,000), what 0: DAYS that are WET, as bits, 1: hears() of the last"
                + " one.");
        LeakyLine x = Check.told(Wires.wet(1, 5));
        s.due("drawn(0, 0): 0 8 8 7 8 7", 1, x.drawn(0, 0));
        s.due("drawn(0, 1)", 1, x.drawn(0, 1));
        s.due("drawn(2000000000, 0): 4 3 1 7 6 2", 0b100111, x.drawn(2000000000, 0));
        s.due("drawn(2000000000, 1)", 0, x.drawn(2000000000, 1));
        s.due("wets() stays", 6, x.wets());
        x.cups(0, 5);
        s.due("drawn(2000000000, 1), CUPPED as now", 1, x.drawn(2000000000, 1));
        x.snaps(0, 5);
        s.due("drawn(0, 1), broken as now", 0, x.drawn(0, 1));
        s.due("drawn(0, 0) without POLES: 0 8 8 7", 1, Check.told(Wires.NO_SPANS).drawn(0, 0));
        s.due("drawn(0, 1) without POLES", 0, Check.told(Wires.NO_SPANS).drawn(0, 1));
        s.promise(79, "-2: there are none such, no WIRE.");
        LeakyLine y = Check.told(Wires.PLAIN);
        s.refusedBeyond("drawn(.., 0)", -2, 0, 2000000000, seed -> y.drawn(seed, 0));
        s.refusedBeyond("drawn(.., 1)", -2, 0, 2000000000, seed -> y.drawn(seed, 1));
        parts("drawn(0, ..)", -2, what -> y.drawn(0, what));
        noWire("drawn(0, 0)", -2, z -> z.drawn(0, 0));
    }

    private void luck() {
        s.promise(80, "Of n (1 .. 20) such from seeds, the seed and 1, .., in how many a STATION HEARS on the last DAY.");
        LeakyLine x = Check.told(Wires.wet(1, 5));
        // the last DAY's draw of seeds 5 .. 14 is 4, 5, 5, 3, 4, 4, 2, 3, 3, 1
        s.due("luck(5, 1, 0)", 0, x.luck(5, 1, 0));
        s.due("luck(6, 1, 0)", 1, x.luck(6, 1, 0));
        s.due("luck(5, 10, 0)", 2, x.luck(5, 10, 0));
        for (int seed : new int[] {0, 1000000000, 1999999999, 2000000000}) {
            int hears = 0;
            for (int i = 0; i < 20; i++) {
                hears += lastIsDry(seed + (long) i);
            }
            s.due("luck(" + seed + ", 20, 0)", hears, x.luck(seed, 20, 0));
        }
        s.due("luck(0, 20, 0) by odds 0", 20, Check.told(Wires.wet(1, 0)).luck(0, 20, 0));
        s.due("luck(0, 20, 0) by odds 10", 0, Check.told(Wires.wet(1, 10)).luck(0, 20, 0));
        s.promise(80, "-2: there are none such.");
        s.refusedBeyond("luck(.., 1, 0)", -2, 0, 2000000000, seed -> x.luck(seed, 1, 0));
        s.refusedBeyond("luck(0, .., 0)", -2, 1, 20, n -> x.luck(0, n, 0));
        stations("luck(0, 1, ..)", (z, pole) -> z.luck(0, 1, pole));
    }

    /** Of wet(1, 5): 1, if the draw of DAY 5 from a seed is 5 or more. */
    private static int lastIsDry(long seed) {
        BigInteger x = BigInteger.valueOf(seed);
        for (int day = 0; day <= 5; day++) {
            x = x.multiply(BigInteger.valueOf(1103515245)).add(BigInteger.valueOf(12345)).mod(BigInteger.valueOf(2147483648L));
        }
        return x.longValue() / 65536 % 10 >= 5 ? 1 : 0;
    }

    private void rate() {
        s.promise(81, "What a STATION needs is n (0 .. 60) from now on: what it needed.");
        LeakyLine x = Check.told(Wires.PLAIN);
        s.due("rate(0, 0)", 5, x.rate(0, 0));
        s.due("rate(0, 60)", 0, x.rate(0, 60));
        s.due("span(0, 2)", 60, x.span(0, 2));
        s.due("hears(0)", 0, x.hears(0));
        s.due("rate(0, 5)", 60, x.rate(0, 5));
        s.due("hears(0)", 1, x.hears(0));
        s.due("rate(1, 2): the other one stays", 3, x.rate(1, 2));
        s.due("hears(0)", 3, x.hears(0));
        s.promise(81, "-5: there were acts;");
        x.cups(0, 4);
        s.due("rate(0, 9)", -5, x.rate(0, 9));
        s.due("span(0, 2) stays", 5, x.span(0, 2));
        x.undo();
        s.due("rate(0, 9), taken back", 5, x.rate(0, 9));
        x.snaps(0, 4);
        s.due("rate(0, 8), broken", -5, x.rate(0, 8));
        x.anew();
        s.due("rate(0, 8), all taken back", 9, x.rate(0, 8));
        s.promise(81, "-2: there are none such.");
        stations("rate(.., 9)", (z, pole) -> z.rate(pole, 9));
        LeakyLine y = Check.told(Wires.PLAIN);
        s.refusedBeyond("rate(0, ..)", -2, 0, 60, n -> y.rate(0, n));
        s.due("span(0, 2): the last that was taken", 60, y.span(0, 2));
    }

    private void count() {
        s.promise(82, "0 days, 1 LAW, 2 odds, 3 VOLTS, 4 SPANS, 5 wet LINES, 6 acts, 7 LINES, 8 bytes of the TAPE, 9 SLOTS that have a"
                + " row.");
        LeakyLine x = Check.told("wire days 13 law 3 odds 10 volts 60;" + "span 1 leak 30;".repeat(5) + "wet 13;".repeat(8));
        for (int i = 0; i < 30; i++) {
            x.snaps(i % 5, i % 14);
        }
        for (int i = 0; i < 25; i++) {
            x.feed(i, i, i, i, i);
        }
        for (int slot = 0; slot < 4; slot++) {
            x.row(slot, slot, 15 * slot);
        }
        int[] most = {13, 3, 10, 60, 5, 8, 30, 14, 500, 4};
        int[] least = {1, 0, 0, 1, 0, 0, 0, 1, 0, 0};
        LeakyLine y = Check.told("wire days 1 law 0 odds 0 volts 1;");
        for (int what = 0; what <= 9; what++) {
            s.due("count(" + what + "), the most", most[what], x.count(what));
            s.due("count(" + what + "), the least", least[what], y.count(what));
            s.due("count(" + what + ") without a WIRE", 0, new LeakyLine().count(what));
        }
        s.promise(82, "NONE for others.");
        s.refusedBeyond("count()", -1, 0, 9, x::count);
        s.refusedBeyond("count() without a WIRE", -1, 0, 9, new LeakyLine()::count);
    }

    private void image() {
        s.promise(83, "IMAGE k (0 .. 2) keeps the WIRE, and acts: 0.");
        LeakyLine x = acted(30);
        for (int k = 0; k < 3; k++) {
            s.due("image(" + k + ")", 0, x.image(k));
            x.undo();
        }
        for (int k = 0; k < 3; k++) {
            Check.tell(x, Wires.NO_SPANS);
            s.due("back(" + k + ")", 0, x.back(k));
            s.due("count(6)", 30 - k, x.count(6));
            s.due("count(7)", 3, x.count(7));
        }
        s.due("image(1) in place of another", 0, x.image(1));
        x.back(1);
        s.due("count(6)", 28, x.count(6));
        x.end(0);
        x.wire();
        s.due("image(2) of no WIRE", 0, x.image(2));
        s.due("image(0) of a new object", 0, new LeakyLine().image(0));
        s.promise(83, "-2: no such k.");
        s.refusedBeyond("image()", -2, 0, 2, x::image);
        s.refusedBeyond("image() of a new object", -2, 0, 2, new LeakyLine()::image);
    }

    private void back() {
        s.promise(84, "It is as IMAGE k has it: 0.");
        LeakyLine x = Check.told(Wires.PLAIN);
        x.rate(1, 2);
        x.cups(0, 1);
        x.image(0);
        x.image(2);
        x.snaps(0, 0);
        x.anew();
        x.rate(1, 60);
        x.snaps(1, 3);
        s.due("back(0)", 0, x.back(0));
        s.due("span(1, 2)", 2, x.span(1, 2));
        s.due("cupped(0, 4)", 1, x.cupped(0, 4));
        s.due("snapped(0)", -1, x.snapped(0));
        s.due("snapped(1)", -1, x.snapped(1));
        s.due("undo()", 0, x.undo());
        x.cups(1, 4);
        s.due("back(0) again: the IMAGE stays", 0, x.back(0));
        s.due("cupped(0, 4)", 1, x.cupped(0, 4));
        s.due("cupped(1, 4)", -1, x.cupped(1, 4));
        s.due("undo()", 0, x.undo());
        Check.tell(x, Wires.LONG);
        x.row(0, 0, 3);
        x.feed(0, 0, 0, 0, 0);
        s.due("back(2), another WIRE told since", 0, x.back(2));
        s.due("count(7)", 3, x.count(7));
        s.due("count(6)", 1, x.count(6));
        s.due("count(8): the TAPE is not of the WIRE", 20, x.count(8));
        s.due("count(9): SLOTS are not of the WIRE", 1, x.count(9));
        x.wire();
        s.due("fault(0) of the latest wire()", 1, x.fault(0));
        x.back(0);
        s.due("fault(0) stays", 1, x.fault(0));
        LeakyLine none = new LeakyLine();
        none.image(1);
        Check.tell(none, Wires.PLAIN);
        s.due("back(1) to no WIRE", 0, none.back(1));
        s.due("stations()", -2, none.stations());
        s.promise(84, "-2: no such k;");
        s.refusedBeyond("back()", -2, 0, 2, x::back);
        s.promise(84, "-6: it has nothing.");
        for (int k = 0; k < 3; k++) {
            LeakyLine y = Check.told(Wires.PLAIN);
            y.image((k + 1) % 3);
            y.image((k + 2) % 3);
            s.due("back(" + k + ")", -6, y.back(k));
            s.due("count(7) stays", 3, y.count(7));
        }
    }

    private void row() {
        s.promise(85, "A SLOT (0 .. 3) has a row of n numbers of a WIDTH, all 0 (in place of another one): 0.");
        LeakyLine x = Check.told(Wires.PLAIN);
        for (int slot = 0; slot < 4; slot++) {
            for (int width = 0; width < 4; width++) {
                s.due("row(" + slot + ", " + width + ", 0)", 0, x.row(slot, width, 0));
                s.due("write to a row of none", -7, x.write(slot, 0, 0));
                s.due("row(" + slot + ", " + width + ", 60)", 0, x.row(slot, width, 60));
                s.due("write to the last", 0, x.write(slot, 59, 1));
            }
        }
        Check.row(x, 0, 3, 0, 2, 1);
        s.due("laws(0)", 15, x.laws(0));
        s.due("row(0, 3, 3)", 0, x.row(0, 3, 3));
        s.due("laws(0): all 0", 0, x.laws(0));
        x.write(0, 1, 2);
        x.write(0, 2, 1);
        s.due("laws(0)", 15, x.laws(0));
        zeros();
        x.row(0, 3, 60);
        x.write(0, 59, -1);
        s.due("spots(0): the last is below 0", -2, x.spots(0));
        x.row(0, 3, 60);
        s.due("spots(0): all 0, up to the last", 0, x.spots(0));
        s.promise(85, "-2: there is no such SLOT or WIDTH (0 .. 3), or n is above 60;");
        LeakyLine y = Check.told(Wires.PLAIN);
        s.refusedBeyond("row(.., 0, 1)", -2, 0, 3, slot -> y.row(slot, 0, 1));
        s.refusedBeyond("row(0, .., 1)", -2, 0, 3, width -> y.row(0, width, 1));
        for (int n : new int[] {61, 62, 64, 255, 256, 65536, Integer.MAX_VALUE}) {
            s.due("row(1, 0, " + n + ")", -2, y.row(1, 0, n));
        }
        s.due("count(9): what was refused is no row", 2, y.count(9));
        s.due("row(4, 0, -1)", -2, y.row(4, 0, -1));
        s.due("row(0, 4, -1)", -2, y.row(0, 4, -1));
        Check.row(y, 0, 3, 0, 2, 1);
        y.row(0, 3, 61);
        y.row(0, 4, 3);
        s.due("laws(0) stays", 15, y.laws(0));
        s.promise(85, "-3, and the SLOT stays: n is below 0.");
        for (int n : new int[] {-1, -2, -60, -61, -256, Integer.MIN_VALUE}) {
            s.due("row(0, 3, " + n + ")", -3, y.row(0, 3, n));
            s.due("row(2, 3, " + n + ")", -3, y.row(2, 3, n));
        }
        s.due("laws(0) stays", 15, y.laws(0));
        s.due("laws(2) has nothing still", -6, y.laws(2));
    }

    /** 2 ohms on DAY 0, none that lead from DAY 1 on: the numbers that are not written tell that they are 0. */
    private void zeros() {
        LeakyLine x = Check.told("wire days 2 law 0 odds 0 volts 9; span 1 leak 1;");
        x.snaps(0, 1);
        Check.row(x, 0, 3, 2, 2, 2);
        x.row(0, 3, 3);
        x.write(0, 1, 2);
        x.write(0, 2, 1);
        s.due("laws(0): the DAY is 0", 15, x.laws(0));
        x.row(0, 3, 3);
        x.write(0, 0, 1);
        x.write(0, 1, 1);
        s.due("laws(0): below is 0", 15, x.laws(0));
        x.row(0, 3, 3);
        x.paste(0, 1, 0, 2, 1);
        x.write(0, 0, 1);
        x.write(0, 1, 1);
        s.due("laws(0): above was 0", 15, x.laws(0));
    }

    private void write() {
        s.promise(86, "Number i of the SLOT's row is v, cut to its WIDTH: 0.");
        LeakyLine x = Check.told(Wires.PLAIN);
        for (int width = 0; width < 4; width++) {
            int bits = 8 << width;
            long beyond = width == 3 ? 0 : 1L << bits;
            x.row(0, width, 3);
            s.due("write(0, 0, ..)", 0, x.write(0, 0, 7 * beyond));
            s.due("write(0, 1, ..)", 0, x.write(0, 1, 2 - beyond));
            s.due("write(0, 2, ..)", 0, x.write(0, 2, 1 + beyond));
            s.due("laws(0) of WIDTH " + width, 15, x.laws(0));
            x.write(0, 2, Long.MIN_VALUE + (width == 3 ? 0 : 1));
            s.due("laws(0): 1 << 63 is cut, but of WIDTH 3", width == 3 ? -2 : 15, x.laws(0));
            x.write(0, 2, (1L << (bits - 1)) - 1);
            s.due("laws(0): the most that is not below 0", 0, x.laws(0));
            x.write(0, 2, 1L << (bits - 1));
            s.due("laws(0): the least, below 0", -2, x.laws(0));
        }
        s.promise(86, "-2: there is no such SLOT;");
        x.row(3, 0, 1);
        for (int slot : new int[] {Integer.MIN_VALUE, -1, 4, 5, 32, 256, Integer.MAX_VALUE}) {
            s.due("write(" + slot + ", 0, 1)", -2, x.write(slot, 0, 1));
            s.due("write(" + slot + ", 60, 1), no such number, too", -2, x.write(slot, 60, 1));
        }
        s.promise(86, "-6: it has nothing;");
        s.due("write(1, 0, 1)", -6, x.write(1, 0, 1));
        s.due("write(2, -1, 1), no such number, too", -6, x.write(2, -1, 1));
        s.promise(86, "-7: there is no such number.");
        LeakyLine y = Check.told(Wires.PLAIN);
        y.row(0, 3, 3);
        s.refusedBeyond("write(0, .., 1) of 3", -7, 0, 2, i -> y.write(0, i, 1));
        y.row(1, 3, 60);
        s.refusedBeyond("write(1, .., 1) of 60", -7, 0, 59, i -> y.write(1, i, 1));
        y.row(2, 3, 1);
        s.refusedBeyond("write(2, .., 1) of 1", -7, 0, 0, i -> y.write(2, i, 1));
        y.row(3, 3, 0);
        s.due("write(3, 0, 1) of none", -7, y.write(3, 0, 1));
        s.due("write(3, -1, 1) of none", -7, y.write(3, -1, 1));
        Check.row(y, 1, 3, 0, 2, 1);
        y.write(0, 3, 9);
        y.write(2, -1, 9);
        s.due("laws(1): what was refused is written nowhere", 15, y.laws(1));
    }

    private void paste() {
        s.promise(87, "So many numbers of a SLOT's row, from one on, are put to another one's (or its own), from one on, as they were: 0.");
        LeakyLine x = Check.told(Wires.PLAIN);
        for (int width = 0; width < 4; width++) {
            Check.row(x, 0, width, 9, 9, 9, 0, 2, 1);
            x.row(3, width, 6);
            s.due("paste, the last to the first", 0, x.paste(0, 3, 3, 0, 3));
            s.due("paste, the last to the last", 0, x.paste(0, 3, 3, 3, 3));
            s.due("laws(3)", 15, x.laws(3));
            s.due("paste of all", 0, x.paste(3, 0, 0, 0, 6));
            s.due("laws(0)", 15, x.laws(0));
        }
        x.row(1, 0, 60);
        x.row(2, 0, 60);
        s.due("paste of 60", 0, x.paste(1, 0, 2, 0, 60));
        s.due("paste of 60 to its own", 0, x.paste(1, 0, 1, 0, 60));
        Check.row(x, 1, 1, 0, 2, 1, 9, 9, 9, 9, 9, 9);
        s.due("paste to its own, upwards", 0, x.paste(1, 0, 1, 3, 6));
        Check.row(x, 2, 1, 8, 8, 8);
        x.paste(1, 3, 2, 0, 3);
        s.due("laws(2): as the first three were", 15, x.laws(2));
        x.paste(1, 6, 2, 0, 3);
        s.due("laws(2): as the next three were, 9", -2, x.laws(2));
        Check.row(x, 1, 1, 9, 0, 2, 1, 0, 2, 1);
        s.due("paste to its own, downwards", 0, x.paste(1, 1, 1, 0, 6));
        x.write(1, 6, 7);
        Check.row(x, 2, 1, 0, 0, 0, 0, 0, 0);
        x.paste(1, 0, 2, 0, 6);
        s.due("laws(2)", 15, x.laws(2));
        s.due("paste of none", 0, x.paste(1, 0, 2, 0, 0));
        s.due("paste of none at the ends", 0, x.paste(1, 7, 2, 6, 0));
        s.due("laws(2) stays", 15, x.laws(2));
        x.row(3, 1, 0);
        s.due("paste of none to a row of none", 0, x.paste(1, 0, 3, 0, 0));
    }

    private void pasteRefused() {
        LeakyLine x = Check.told(Wires.PLAIN);
        Check.row(x, 0, 1, 9, 9, 9, 9);
        Check.row(x, 1, 1, 0, 2, 1);
        x.row(2, 2, 3);
        s.promise(87, "-2: there is no such SLOT;");
        for (int slot : new int[] {Integer.MIN_VALUE, -1, 4, 5, 32, Integer.MAX_VALUE}) {
            s.due("paste(" + slot + ", 0, 1, 0, 1)", -2, x.paste(slot, 0, 1, 0, 1));
            s.due("paste(1, 0, " + slot + ", 0, 1)", -2, x.paste(1, 0, slot, 0, 1));
            s.due("paste(3, 0, " + slot + ", 0, 1), nothing there, too", -2, x.paste(3, 0, slot, 0, 1));
            s.due("paste(" + slot + ", 0, 3, 0, -1), nothing there, too", -2, x.paste(slot, 0, 3, 0, -1));
        }
        s.promise(87, "-6: one has nothing;");
        s.due("paste(3, 0, 1, 0, 1)", -6, x.paste(3, 0, 1, 0, 1));
        s.due("paste(1, 0, 3, 0, 1)", -6, x.paste(1, 0, 3, 0, 1));
        s.due("paste(3, 0, 3, 0, 0)", -6, x.paste(3, 0, 3, 0, 0));
        s.due("paste(1, -1, 3, 0, 1), no such place, too", -6, x.paste(1, -1, 3, 0, 1));
        s.promise(87, "-8: they are not of one WIDTH;");
        s.due("paste(1, 0, 2, 0, 1)", -8, x.paste(1, 0, 2, 0, 1));
        s.due("paste(2, 0, 1, 0, 1)", -8, x.paste(2, 0, 1, 0, 1));
        s.due("paste(1, 0, 2, 0, 0) of none", -8, x.paste(1, 0, 2, 0, 0));
        s.due("paste(1, 9, 2, 9, -9), beyond, too", -8, x.paste(1, 9, 2, 9, -9));
        s.promise(87, "-7, and nothing happens: some are beyond their rows, or a place or n is below 0.");
        int[][] beyond = {{0, 0, 4}, {0, 1, 3}, {0, 2, 2}, {2, 0, 3}, {4, 0, 1}, {0, 3, 1}, {-1, 0, 1}, {0, -1, 1},
            {1, 1, -1}, {0, 0, -1}, {-1, -1, 0}, {5, 0, 0}, {0, 4, 0}, {Integer.MAX_VALUE, 0, 1}, {0, Integer.MAX_VALUE, 1},
            {1, 1, Integer.MAX_VALUE}, {Integer.MAX_VALUE, Integer.MAX_VALUE, Integer.MAX_VALUE},
            {Integer.MIN_VALUE, 0, 1}, {0, Integer.MIN_VALUE, 1}, {0, 0, Integer.MIN_VALUE}, {Integer.MAX_VALUE, 0, -1}};
        for (int[] b : beyond) {
            s.due("paste(0, " + b[0] + ", 1, " + b[1] + ", " + b[2] + ")", -7, x.paste(0, b[0], 1, b[1], b[2]));
            s.due("laws(1): nothing happened", 15, x.laws(1));
        }
        s.due("paste(1, 1, 1, 0, 3), beyond its own", -7, x.paste(1, 1, 1, 0, 3));
        s.due("paste(1, 0, 1, 1, 3), beyond its own", -7, x.paste(1, 0, 1, 1, 3));
        s.due("laws(1): nothing happened", 15, x.laws(1));
        s.due("paste(0, 1, 1, 0, 3), just within", 0, x.paste(0, 1, 1, 0, 3));
        s.due("laws(1): 9, 9, 9", -2, x.laws(1));
    }
}
