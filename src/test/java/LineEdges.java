/** The edges of promises 1 to 20: the TAPE, the WIRE, one DAY of it. */
final class LineEdges extends Edges {
    LineEdges(Sentences s) {
        super(s);
    }

    @Override
    void all() {
        newObject();
        feed();
        end();
        wire();
        fault();
        span();
        stationsAndWets();
        leakAndJoined();
        ohmsAndAmps();
        volts();
        fallsAndEarth();
        sore();
        hearsAndSilent();
        faint();
    }

    private static int word(String four) {
        return four.charAt(0) << 24 | four.charAt(1) << 16 | four.charAt(2) << 8 | four.charAt(3);
    }

    private void newObject() {
        s.promise(1, "No WIRE.");
        LeakyLine x = new LeakyLine();
        s.due("stations()", -2, x.stations());
        for (int what = 0; what <= 9; what++) {
            s.due("count(" + what + ")", 0, x.count(what));
        }
        for (int k = 0; k < 3; k++) {
            s.due("back(" + k + ")", -6, x.back(k));
        }
    }

    private void feed() {
        s.promise(2, "Twenty bytes come behind the TAPE, four of each number, the highest first: how many it has;");
        LeakyLine x = new LeakyLine();
        s.due("feed", 20, x.feed(word("wire"), word(" day"), word("s 7 "), word("law "), word("2 od")));
        s.due("feed", 40, x.feed(word("ds 4"), word(" vol"), word("ts 3"), word("1;  "), word("    ")));
        s.due("wire()", 1, x.wire());
        int[] want = {7, 2, 4, 31};
        for (int what = 0; what < 4; what++) {
            s.due("count(" + what + ")", want[what], x.count(what));
        }
        x.end(0);
        s.due("feed behind what end() left", 20, x.feed(word("wire"), -1, -1, -1, -1));
        x.end(4);
        s.due("feed behind what end() left", 24, x.feed(word(" day"), word("s 13"), word(" law"), word(" 0 o"), word("dds ")));
        s.due("feed", 44, x.feed(word("0 vo"), word("lts "), word("60; "), word("    "), word("    ")));
        s.due("wire()", 1, x.wire());
        // the highest bit of a byte is kept: 128 + ' ' is no blank
        x.feed(0x20202020, 0x20202020, 0x20202020, 0x20202020, 0x202020a0);
        s.due("wire()", -4, x.wire());
        s.due("fault(1)", 19, x.fault(1));
        s.promise(2, "NONE, and none come, if it would have more than 500.");
        x = new LeakyLine();
        for (int i = 1; i <= 24; i++) {
            x.feed(0x20202020, 0x20202020, 0x20202020, 0x20202020, 0x20202020);
        }
        s.due("feed up to 500", 500, x.feed(0x20202020, 0x20202020, 0x20202020, 0x20202020, 0x2020200a));
        s.due("feed beyond", -1, x.feed(-1, -1, -1, -1, -1));
        s.due("count(8)", 500, x.count(8));
        for (int left = 481; left < 500; left += 6) {
            s.due("end", left, x.end(left));
            s.due("feed up to " + (left + 20), -1, x.feed(-1, -1, -1, -1, -1));
            s.due("count(8)", left, x.count(8));
            x.end(480);
            x.feed(0x20202020, 0x20202020, 0x20202020, 0x20202020, 0x20202020);
        }
        s.due("wire(): blanks alone", 0, x.wire());
        s.due("feed behind that", 20, x.feed(0, 0, 0, 0, 0));
    }

    private void end() {
        s.promise(3, "The TAPE has its first n bytes alone: n;");
        LeakyLine x = new LeakyLine();
        s.due("end(0) of an empty TAPE", 0, x.end(0));
        Check.tape(x, Wires.HEAD + "wet 3;?");
        s.due("end of all", 40, x.end(40));
        s.due("end of less", 39, x.end(39));
        s.due("count(8)", 39, x.count(8));
        s.due("wire()", 2, x.wire());
        s.due("end(0) behind wire()", 0, x.end(0));
        s.promise(3, "NONE, and nothing happens, if it has not so many, or n is below 0.");
        s.due("end(1) of an empty TAPE", -1, x.end(1));
        Check.tape(x, Wires.HEAD);
        s.refusedBeyond("end()", -1, 33, 33, n -> n >= 0 && n < 33 ? -1 : x.end(n));
        s.due("count(8): nothing happened", 33, x.count(8));
        x.end(32);
        s.due("end(33): what was cut is gone", -1, x.end(33));
        s.due("wire()", -4, x.wire());
    }

    private void wire() {
        s.promise(4, "The TAPE (empty then) is the WIRE (in place of another), nothing done: how many LINES (0: there is none then).");
        LeakyLine x = Check.told(Wires.LONG);
        x.cups(1, 1);
        x.snaps(2, 2);
        x.rate(0, 3);
        s.due("wire()", 3, Check.tell(x, Wires.PLAIN));
        s.due("count(8): empty", 0, x.count(8));
        s.due("count(4): in place of another", 2, x.count(4));
        s.due("count(6): nothing done", 0, x.count(6));
        s.due("leak(1, 4): nothing done", 1, x.leak(1, 4));
        s.due("joined(4): nothing done", 2, x.joined(4));
        x.cups(1, 1);
        s.due("wire(), the same again", 3, Check.tell(x, Wires.PLAIN));
        s.due("leak(1, 4): nothing done", 1, x.leak(1, 4));
        s.due("wire() of the most LINES", 14, Check.tell(x, Wires.HEAD + "span 1 leak 1;".repeat(5) + "wet 1;".repeat(8)));
        s.due("wire() of 1 LINE", 1, Check.tell(x, Wires.HEAD));
        s.due("stations() of 1 LINE: there is a WIRE", 0, x.stations());
        s.due("joined(3) of 1 LINE: there is a DAY", 0, x.joined(3));
        Check.tell(x, "wire days 13 law 3 odds 10 volts 60; span 1 leak 1 needs 60; wet 0; wet 1; wet 2;");
        Check.tell(x, Wires.PLAIN);
        s.due("wets() of the one before are gone", 0, x.wets());
        s.due("count(5) of the one before are gone", 0, x.count(5));
        Check.tell(x, "wire days 13 law 3 odds 10 volts 60; span 1 leak 1 needs 60; wet 0; wet 1; wet 2;");
        x.cups(0, 0);
        s.due("wire() of an empty TAPE", 0, x.wire());
        s.due("stations(): none then", -2, x.stations());
        s.due("fault(0)", 0, x.fault(0));
        for (int what = 0; what < 8; what++) {
            s.due("count(" + what + "): none then", 0, x.count(what));
        }
        Check.tell(x, Wires.PLAIN);
        s.due("wire() of blanks", 0, Check.tell(x, " \n \n"));
        s.due("count(8): empty", 0, x.count(8));
        s.due("stations(): none then", -2, x.stations());
        s.promise(4, "-4: a FAULT (all stays).");
        x = Check.told(Wires.PLAIN);
        x.rate(1, 2);
        x.cups(0, 1);
        x.snaps(1, 3);
        x.image(1);
        x.row(2, 1, 3);
        // the FAULT stands last of all: what was read ahead of it leaves nothing behind
        s.due("wire()", -4, Check.tell(x, "wire days 13 law 3 odds 9 volts 60; span 9 leak 9 needs 9; wet 1; wet 2; wet 14;"));
        int[] want = {4, 0, 5, 10, 2, 0, 2, 3, 80, 1};
        for (int what = 0; what <= 9; what++) {
            s.due("count(" + what + ")", want[what], x.count(what));
        }
        s.due("span(1, 2)", 2, x.span(1, 2));
        s.due("cupped(0, 4)", 1, x.cupped(0, 4));
        s.due("snapped(1)", 3, x.snapped(1));
        s.due("wets()", 0, x.wets());
        s.due("wire() again: the TAPE stays, too", -4, x.wire());
        s.due("end(35): the TAPE stays, too", 35, x.end(35));
        s.due("wire() of what is left", 1, x.wire());
        LeakyLine none = new LeakyLine();
        Check.tell(none, "wire days 3 law 3 odds 3 volts 3; span 1 leak 1; wet 0; wet 1;!");
        s.due("stations(): there was no WIRE", -2, none.stations());
        Check.tell(none, Wires.HEAD);
        s.due("wets() behind a FAULT: what it told is gone", 0, none.wets());
        s.due("count(4) behind a FAULT", 0, none.count(4));
        s.due("count(5) behind a FAULT", 0, none.count(5));
    }

    private void fault() {
        s.promise(5, "Of the latest wire(), what 0: its FAULT, 0 without, 1: its place (NONE without).");
        LeakyLine x = new LeakyLine();
        Check.tell(x, "wire days 0");
        s.due("fault(0)", 2, x.fault(0));
        s.due("fault(1)", 10, x.fault(1));
        x.end(0);
        x.feed(0, 0, 0, 0, 0);
        s.due("fault(0): the TAPE is another, the latest wire() is not", 2, x.fault(0));
        Check.tell(x, "?");
        s.due("fault(0)", 1, x.fault(0));
        s.due("fault(1), the first place", 0, x.fault(1));
        Check.tell(x, Wires.PLAIN);
        s.due("fault(0) without", 0, x.fault(0));
        s.due("fault(1) without", -1, x.fault(1));
        Check.tell(x, "wire");
        x.end(0);
        x.wire();
        s.due("fault(0) of an empty TAPE", 0, x.fault(0));
        s.due("fault(1) of an empty TAPE", -1, x.fault(1));
        Check.tape(x, " ".repeat(499) + "?");
        x.wire();
        s.due("fault(1), the last place of a full TAPE", 499, x.fault(1));
        Check.tape(x, "wire" + " ".repeat(496));
        x.wire();
        s.due("fault(1), the end of a full TAPE", 500, x.fault(1));
        s.promise(5, "NONE for another what, and ahead of any (what 1).");
        LeakyLine y = new LeakyLine();
        s.due("fault(1) ahead of any", -1, y.fault(1));
        s.due("fault(0) ahead of any", 0, y.fault(0));
        s.refusedBeyond("fault()", -1, 0, 1, x::fault);
    }

    private void span() {
        s.promise(6, "Of a SPAN, what 0: its ohms, 1: leak as told at its POLE, 2: what a STATION there needs (NONE: there is none).");
        LeakyLine x = Check.told("wire days 1 law 3 odds 0 volts 1; span 12 leak 30 needs 60; span 1 leak 1 needs 0;"
                + "span 2 leak 3; wet 0; wet 1;");
        int[][] want = {{12, 30, 60}, {1, 1, 0}, {2, 3, -1}};
        for (int span = 0; span < 3; span++) {
            for (int what = 0; what < 3; what++) {
                s.due("span(" + span + ", " + what + ")", want[span][what], x.span(span, what));
            }
        }
        x.rate(1, 60);
        x.cups(2, 0);
        x.snaps(0, 0);
        s.due("span(2, 1), as told, CUPPED or not", 3, x.span(2, 1));
        s.due("span(0, 0), broken or not", 12, x.span(0, 0));
        s.due("span(1, 2), from rate() on", 60, x.span(1, 2));
        s.promise(6, "-2: there are none such.");
        LeakyLine y = Check.told(Wires.PLAIN);
        for (int what = 0; what < 3; what++) {
            int of = what;
            poles("span(.., " + what + ")", -2, span -> y.span(span, of));
        }
        s.refusedBeyond("span(0, ..)", -2, 0, 2, what -> y.span(0, what));
        s.due("span(0, 0) without SPANS", -2, Check.told(Wires.NO_SPANS).span(0, 0));
        noWire("span(0, 0)", -2, z -> z.span(0, 0));
    }

    private void stationsAndWets() {
        s.promise(7, "POLES at which there are STATIONS, as bits.");
        s.due("stations(), all five", 31, Check.told(Wires.LONG).stations());
        s.due("stations(), none", 0, Check.told(Wires.NO_STATIONS).stations());
        s.due("stations() without POLES", 0, Check.told(Wires.NO_SPANS).stations());
        s.due("stations()", 3, Check.told(Wires.TWO_OF_THREE).stations());
        s.promise(7, "-2: there is no WIRE.");
        noWire("stations()", -2, LeakyLine::stations);
        s.promise(8, "DAYS there are that are WET, as bits.");
        s.due("wets(), none", 0, Check.told(Wires.PLAIN).wets());
        s.due("wets(), the first and the last", 1 | 1 << 13, Check.told(Wires.pole(13, 0, 1, "wet 13; wet 0;")).wets());
        s.due("wets(), one that is not there", 1, Check.told(Wires.pole(12, 0, 1, "wet 13; wet 0;")).wets());
        s.promise(8, "-2 likewise.");
        noWire("wets()", -2, LeakyLine::wets);
    }

    private void leakAndJoined() {
        s.promise(9, "LEAK (III) of a POLE on a DAY.");
        LeakyLine x = Check.told(Wires.wet(1, 5));
        s.due("leak(0, 0)", 5, x.leak(0, 0));
        s.due("leak(0, 2)", 2, x.leak(0, 2));
        s.due("leak(0, 5)", 5, x.leak(0, 5));
        x.snaps(0, 0);
        s.due("leak(0, 5), broken or not", 5, x.leak(0, 5));
        s.promise(9, "-2: there are none such.");
        LeakyLine y = Check.told(Wires.PLAIN);
        poles("leak(.., 0)", -2, pole -> y.leak(pole, 0));
        days("leak(0, ..)", day -> y.leak(0, day));
        noWire("leak(0, 0)", -2, z -> z.leak(0, 0));
        s.promise(10, "How many SPANS lead on a DAY (III: none behind one that is broken).");
        s.due("joined(13), all", 5, Check.told(Wires.LONG).joined(13));
        s.due("joined(0) without SPANS", 0, Check.told(Wires.NO_SPANS).joined(0));
        x = Check.told(Wires.LONG);
        x.snaps(2, 0);
        s.due("joined(0), the third is broken", 2, x.joined(0));
        x.snaps(0, 13);
        s.due("joined(12)", 2, x.joined(12));
        s.due("joined(13), the first is broken", 0, x.joined(13));
        s.promise(10, "-2: there is no such DAY, no WIRE.");
        days("joined()", y::joined);
        noWire("joined(0)", -2, z -> z.joined(0));
    }

    private void ohmsAndAmps() {
        LeakyLine y = Check.told(Wires.PLAIN);
        s.promise(11, "READS (IV) on a DAY, above (what 0), below (1);");
        fraction("ohms(4)", 2, 1, y.ohms(4, 0), y.ohms(4, 1));
        LeakyLine x = Check.told("wire days 1 law 0 odds 0 volts 60;" + "span 12 leak 30;".repeat(5));
        // from the last one on: 42, 59 / 2, 3198 / 119, 4921 / 188, 274362 / 10561
        fraction("ohms(0), the most of all", 274362, 10561, x.ohms(0, 0), x.ohms(0, 1));
        x = Check.told("wire days 1 law 0 odds 0 volts 60; span 1 leak 1;");
        fraction("ohms(0), the least of one", 2, 1, x.ohms(0, 0), x.ohms(0, 1));
        s.promise(11, "1 / 0, if no SPAN leads.");
        x.snaps(0, 1);
        fraction("ohms(0)", 2, 1, x.ohms(0, 0), x.ohms(0, 1));
        fraction("ohms(1)", 1, 0, x.ohms(1, 0), x.ohms(1, 1));
        x = Check.told(Wires.PLAIN);
        x.ohms(0, 0);
        Check.tell(x, Wires.NO_SPANS);
        fraction("ohms(3) without SPANS", 1, 0, x.ohms(3, 0), x.ohms(3, 1));
        s.promise(11, "-2: there are none such, no WIRE.");
        days("ohms(.., 0)", day -> y.ohms(day, 0));
        days("ohms(.., 1)", day -> y.ohms(day, 1));
        parts("ohms(0, ..)", -2, what -> y.ohms(0, what));
        noWire("ohms(0, 0)", -2, z -> z.ohms(0, 0));
        s.promise(12, "The current that the battery gives on a DAY (VOLTS by READS; 0 / 1, if no SPAN leads), above, below.");
        fraction("amps(0)", 5, 1, y.amps(0, 0), y.amps(0, 1));
        LeakyLine broken = Check.told(Wires.PLAIN);
        broken.snaps(0, 4);
        fraction("amps(3)", 5, 1, broken.amps(3, 0), broken.amps(3, 1));
        fraction("amps(4), no SPAN leads", 0, 1, broken.amps(4, 0), broken.amps(4, 1));
        fraction("amps(0) without SPANS", 0, 1, x.amps(0, 0), x.amps(0, 1));
        s.promise(12, "-2 likewise.");
        days("amps(.., 0)", day -> y.amps(day, 0));
        days("amps(.., 1)", day -> y.amps(day, 1));
        parts("amps(0, ..)", -2, what -> y.amps(0, what));
        noWire("amps(0, 0)", -2, z -> z.amps(0, 0));
    }

    private void volts() {
        LeakyLine y = Check.told(Wires.PLAIN);
        LeakyLine x = Check.told(Wires.PLAIN);
        x.snaps(1, 4);
        s.promise(13, "VOLTS at a POLE on a DAY, above, below (0 / 1 behind what is broken).");
        fraction("volts(1, 3)", 5, 2, x.volts(1, 3, 0), x.volts(1, 3, 1));
        fraction("volts(1, 4)", 0, 1, x.volts(1, 4, 0), x.volts(1, 4, 1));
        fraction("volts(0, 4), ahead of what is broken", 20, 3, x.volts(0, 4, 0), x.volts(0, 4, 1));
        x.snaps(0, 4);
        fraction("volts(0, 4)", 0, 1, x.volts(0, 4, 0), x.volts(0, 4, 1));
        s.promise(13, "-2: there are none such.");
        poles("volts(.., 0, 0)", -2, pole -> y.volts(pole, 0, 0));
        days("volts(0, .., 1)", day -> y.volts(0, day, 1));
        parts("volts(0, 0, ..)", -2, what -> y.volts(0, 0, what));
        noWire("volts(0, 0, 0)", -2, z -> z.volts(0, 0, 0));
        s.promise(14, "VOLTS at a POLE on a DAY, whole ones (cut).");
        s.due("whole(0, 0), 5 just", 5, y.whole(0, 0));
        s.due("whole(1, 0) of 5 / 2", 2, y.whole(1, 0));
        s.due("whole(2, 0) of 40 / 21", 1, Check.told(Wires.TWO_OF_THREE).whole(2, 0));
        s.due("whole(0, 0) of 1 / 2", 0, Check.told("wire days 1 law 0 odds 0 volts 1; span 1 leak 1;").whole(0, 0));
        s.due("whole(0, 4) behind what is broken", 0, x.whole(0, 4));
        s.promise(14, "-2 likewise.");
        poles("whole(.., 0)", -2, pole -> y.whole(pole, 0));
        days("whole(0, ..)", day -> y.whole(0, day));
        noWire("whole(0, 0)", -2, z -> z.whole(0, 0));
    }

    private void fallsAndEarth() {
        LeakyLine y = Check.told(Wires.PLAIN);
        LeakyLine x = Check.told(Wires.PLAIN);
        x.snaps(1, 4);
        s.promise(15, "By how many VOLTS there are less behind a SPAN than ahead of it on a DAY (0 / 1, if it does not lead), above,"
                + " below.");
        fraction("falls(0, 3), from the battery", 5, 1, x.falls(0, 3, 0), x.falls(0, 3, 1));
        fraction("falls(1, 3)", 5, 2, x.falls(1, 3, 0), x.falls(1, 3, 1));
        fraction("falls(0, 4), the last that leads", 10, 3, x.falls(0, 4, 0), x.falls(0, 4, 1));
        fraction("falls(1, 4), broken", 0, 1, x.falls(1, 4, 0), x.falls(1, 4, 1));
        x.snaps(0, 4);
        fraction("falls(0, 4), broken", 0, 1, x.falls(0, 4, 0), x.falls(0, 4, 1));
        s.promise(15, "-2 likewise.");
        poles("falls(.., 0, 0)", -2, span -> y.falls(span, 0, 0));
        days("falls(0, .., 1)", day -> y.falls(0, day, 1));
        parts("falls(0, 0, ..)", -2, what -> y.falls(0, 0, what));
        noWire("falls(0, 0, 0)", -2, z -> z.falls(0, 0, 0));
        s.promise(16, "The current that leaks at a POLE on a DAY (VOLTS there by LEAK), above, below.");
        fraction("earth(0, 0)", 5, 2, y.earth(0, 0, 0), y.earth(0, 0, 1));
        fraction("earth(1, 0)", 5, 2, y.earth(1, 0, 0), y.earth(1, 0, 1));
        fraction("earth(1, 4), behind what is broken", 0, 1, x.earth(1, 4, 0), x.earth(1, 4, 1));
        // 12 VOLTS, LEAK 2 on a WET DAY: 8 by 2; 5 on a dry one: 10 by 5
        LeakyLine wet = Check.told(Wires.wet(1, 5));
        fraction("earth(0, 1), by LEAK of the DAY", 4, 1, wet.earth(0, 1, 0), wet.earth(0, 1, 1));
        fraction("earth(0, 3), by LEAK of the DAY", 2, 1, wet.earth(0, 3, 0), wet.earth(0, 3, 1));
        s.promise(16, "-2 likewise.");
        poles("earth(.., 0, 0)", -2, pole -> y.earth(pole, 0, 0));
        days("earth(0, .., 1)", day -> y.earth(0, day, 1));
        parts("earth(0, 0, ..)", -2, what -> y.earth(0, 0, what));
        noWire("earth(0, 0, 0)", -2, z -> z.earth(0, 0, 0));
    }

    private void sore() {
        LeakyLine x = Check.told(Wires.PLAIN);
        s.promise(17, "The POLE at which most leaks on a DAY, the first of several.");
        s.due("sore(0), 5 / 2 at both", 0, x.sore(0));
        // 30 || (1 + 2): much more goes on than leaks
        s.due("sore(0), the last", 1, Check.told("wire days 1 law 0 odds 0 volts 9; span 1 leak 30; span 1 leak 2;").sore(0));
        s.due("sore(0), the first", 0, Check.told("wire days 1 law 0 odds 0 volts 9; span 1 leak 2; span 1 leak 30;").sore(0));
        x.snaps(1, 4);
        s.due("sore(4): nothing leaks behind what is broken", 0, x.sore(4));
        s.promise(17, "NONE: no SPAN leads;");
        x.snaps(0, 3);
        s.due("sore(2)", 0, x.sore(2));
        s.due("sore(3)", -1, x.sore(3));
        s.due("sore(0) without SPANS", -1, Check.told(Wires.NO_SPANS).sore(0));
        s.promise(17, "-2: there is no such DAY, no WIRE.");
        days("sore()", Check.told(Wires.PLAIN)::sore);
        s.due("sore(4) without SPANS", -2, Check.told(Wires.NO_SPANS).sore(4));
        noWire("sore(0)", -2, z -> z.sore(0));
    }

    private void hearsAndSilent() {
        LeakyLine x = Check.told(Wires.LONG);
        s.promise(18, "STATIONS that HEAR (IV) on a DAY, as bits.");
        s.due("hears(13), all", 31, x.hears(13));
        s.due("hears(0) of PLAIN: 5 of 5, 5 / 2 of 3", 1, Check.told(Wires.PLAIN).hears(0));
        s.due("hears(0), none there", 0, Check.told(Wires.NO_STATIONS).hears(0));
        s.due("hears(0), no POLES", 0, Check.told(Wires.NO_SPANS).hears(0));
        s.promise(18, "-2 likewise.");
        days("hears()", Check.told(Wires.PLAIN)::hears);
        noWire("hears(0)", -2, z -> z.hears(0));
        s.promise(19, "STATIONS that do not, as bits.");
        s.due("silent(13), none", 0, x.silent(13));
        s.due("silent(0) of PLAIN", 2, Check.told(Wires.PLAIN).silent(0));
        s.due("silent(0), none there", 0, Check.told(Wires.NO_STATIONS).silent(0));
        for (int pole = 0; pole < 5; pole++) {
            x.rate(pole, 60);
        }
        s.due("silent(13), all", 31, x.silent(13));
        LeakyLine some = Check.told(Wires.TWO_OF_THREE);
        some.snaps(0, 1);
        s.due("silent(1): a POLE without a STATION is none", 3, some.silent(1));
        s.promise(19, "-2 likewise.");
        days("silent()", Check.told(Wires.PLAIN)::silent);
        noWire("silent(0)", -2, z -> z.silent(0));
    }

    private void faint() {
        s.promise(20, "The STATION that has least VOLTS on a DAY, the last of several.");
        LeakyLine x = Check.told(Wires.LONG);
        s.due("faint(0)", 4, x.faint(0));
        x.snaps(2, 1);
        s.due("faint(1): 2, 3 and 4 have none", 4, x.faint(1));
        x.snaps(0, 2);
        s.due("faint(2): all have none", 4, x.faint(2));
        s.due("faint(0): a POLE without a STATION aside", 1, Check.told(Wires.TWO_OF_THREE).faint(0));
        s.due("faint(0), the first POLE's alone", 0, Check.told("wire days 1 law 0 odds 0 volts 9; span 1 leak 9 needs 1;"
                + "span 1 leak 9; span 1 leak 9;").faint(0));
        s.promise(20, "NONE: there are none;");
        s.due("faint(0)", -1, Check.told(Wires.NO_STATIONS).faint(0));
        s.due("faint(0) without POLES", -1, Check.told(Wires.NO_SPANS).faint(0));
        s.promise(20, "-2 likewise.");
        days("faint()", Check.told(Wires.PLAIN)::faint);
        s.due("faint(3) without STATIONS", -2, Check.told(Wires.NO_STATIONS).faint(3));
        noWire("faint(0)", -2, z -> z.faint(0));
    }
}
