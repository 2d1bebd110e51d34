/** The edges of promises 21 to 52: who HEARS over all DAYS, WET ones, what was done. */
final class DayEdges extends Edges {
    /** A DAY HEARS, if it is not told WET: LAW 1, LEAK 5 of which a WET DAY leaves 2. */
    private static LeakyLine dryHears(int days, String wets) {
        return Check.told("wire days " + days + " law 1 odds 0 volts 12; span 1 leak 5 needs 10;" + wets);
    }

    DayEdges(Sentences s) {
        super(s);
    }

    @Override
    void all() {
        whenAndDeaf();
        longestAndFlips();
        clearAndLast();
        dimAndBright();
        sum();
        worst();
        damp();
        spellAndDry();
        margin();
        rises();
        endsAndReach();
        pairs();
        half();
        groundsAndSteep();
        muteAndChanges();
        allAndWithout();
        cuppedAndSnapped();
        lack();
        loud();
        weakestAndStrong();
    }

    private void whenAndDeaf() {
        s.promise(21, "The first DAY on which a STATION does not HEAR.");
        s.due("when(0), DAY 0", 0, dryHears(3, "wet 0; wet 2;").when(0));
        s.due("when(0), the last DAY", 3, dryHears(3, "wet 3;").when(0));
        s.due("when(0), DAY 13", 13, dryHears(13, "wet 13;").when(0));
        s.due("when(0), the first of two", 1, dryHears(3, "wet 3; wet 1;").when(0));
        s.promise(21, "NONE: on none;");
        s.due("when(0)", -1, dryHears(3, "").when(0));
        s.due("when(0), a DAY that is not there", -1, dryHears(3, "wet 4;").when(0));
        s.promise(21, "-2: there is none such.");
        stations("when()", LeakyLine::when);
        s.promise(22, "On how many DAYS it does not.");
        s.due("deaf(0), none", 0, dryHears(3, "wet 4;").deaf(0));
        s.due("deaf(0), the first and the last", 2, dryHears(3, "wet 3; wet 0; wet 3;").deaf(0));
        s.due("deaf(0), all", 2, dryHears(1, "wet 1; wet 0;").deaf(0));
        LeakyLine x = Check.told(Wires.LONG);
        x.rate(4, 60);
        s.due("deaf(4), all of the most", 14, x.deaf(4));
        s.promise(22, "-2 likewise.");
        stations("deaf()", LeakyLine::deaf);
    }

    private void longestAndFlips() {
        s.promise(23, "The most DAYS one behind the other on which it HEARS.");
        s.due("longest(0), none", 0, dryHears(1, "wet 1; wet 0;").longest(0));
        s.due("longest(0), all", 4, dryHears(3, "").longest(0));
        s.due("longest(0), all of the most", 14, Check.told(Wires.LONG).longest(0));
        s.due("longest(0), the first ones", 3, dryHears(5, "wet 3;").longest(0));
        s.due("longest(0), the last ones", 3, dryHears(5, "wet 2;").longest(0));
        s.due("longest(0), not all together", 1, dryHears(4, "wet 1; wet 3;").longest(0));
        s.promise(23, "-2 likewise.");
        stations("longest()", LeakyLine::longest);
        s.promise(24, "On how many DAYS from 1 on it HEARS and did not on the one ahead, or the other way.");
        s.due("flips(0), never", 0, dryHears(3, "").flips(0));
        s.due("flips(0), deaf from DAY 0 on", 0, dryHears(1, "wet 1; wet 0;").flips(0));
        s.due("flips(0), it HEARS from DAY 1 on", 1, dryHears(3, "wet 0;").flips(0));
        s.due("flips(0), not on the last", 1, dryHears(3, "wet 3;").flips(0));
        s.due("flips(0), both ways", 2, dryHears(3, "wet 1;").flips(0));
        s.due("flips(0), on each DAY", 13, dryHears(13, "wet 0; wet 2; wet 4; wet 6; wet 8; wet 10; wet 12;").flips(0));
        s.promise(24, "-2 likewise.");
        stations("flips()", LeakyLine::flips);
    }

    private void clearAndLast() {
        s.promise(25, "DAYS on which all STATIONS HEAR (all DAYS without STATIONS), as bits.");
        s.due("clear(), all", (1 << 14) - 1, Check.told(Wires.LONG).clear());
        s.due("clear(), none: one of two does", 0, Check.told(Wires.PLAIN).clear());
        s.due("clear(), the first and the last", 0b1001, dryHears(3, "wet 1; wet 2;").clear());
        s.due("clear() without STATIONS", 7, Check.told(Wires.NO_STATIONS).clear());
        s.due("clear() without POLES", 15, Check.told(Wires.NO_SPANS).clear());
        s.promise(25, "-2: there is no WIRE.");
        noWire("clear()", -2, LeakyLine::clear);
        s.promise(26, "The last of these.");
        s.due("last(), DAY 13", 13, Check.told(Wires.LONG).last());
        s.due("last(), DAY 0", 0, dryHears(2, "wet 1; wet 2;").last());
        s.due("last() without STATIONS", 2, Check.told(Wires.NO_STATIONS).last());
        s.promise(26, "NONE: there is none; -2 likewise.");
        s.due("last()", -1, Check.told(Wires.PLAIN).last());
        noWire("last()", -2, LeakyLine::last);
    }

    private void dimAndBright() {
        s.promise(27, "The DAY on which fewest STATIONS HEAR, the first of several.");
        s.due("dim(), all alike", 0, Check.told(Wires.LONG).dim());
        s.due("dim(), the last", 3, dryHears(3, "wet 3;").dim());
        s.due("dim(), the first of two", 1, dryHears(3, "wet 3; wet 1;").dim());
        s.due("dim() without STATIONS", 0, Check.told(Wires.NO_STATIONS).dim());
        s.due("dim() without POLES", 0, Check.told(Wires.NO_SPANS).dim());
        s.promise(27, "-2 likewise.");
        noWire("dim()", -2, LeakyLine::dim);
        s.promise(33, "The DAY on which most STATIONS HEAR, the first of several.");
        s.due("bright(), all alike", 0, Check.told(Wires.LONG).bright());
        s.due("bright(), the last", 2, dryHears(2, "wet 0; wet 1;").bright());
        s.due("bright(), the first of two", 1, dryHears(3, "wet 0; wet 2;").bright());
        s.due("bright() without STATIONS", 0, Check.told(Wires.NO_STATIONS).bright());
        s.due("bright() without POLES", 0, Check.told(Wires.NO_SPANS).bright());
        s.promise(33, "-2: there is no WIRE.");
        noWire("bright()", -2, LeakyLine::bright);
    }

    private void sum() {
        s.promise(28, "How often STATIONS HEAR on all DAYS together.");
        s.due("sum(), the most", 70, Check.told(Wires.LONG).sum());
        s.due("sum(), the first and the last DAY, too", 4, dryHears(3, "").sum());
        s.due("sum(), none", 0, dryHears(1, "wet 0; wet 1;").sum());
        s.due("sum() without STATIONS", 0, Check.told(Wires.NO_STATIONS).sum());
        s.due("sum() without POLES", 0, Check.told(Wires.NO_SPANS).sum());
        s.promise(28, "-2 likewise.");
        noWire("sum()", -2, LeakyLine::sum);
    }

    private void worst() {
        s.promise(29, "The POLE whose LEAK is least on a DAY, the first of several.");
        s.due("worst(13), all alike", 0, Check.told(Wires.LONG).worst(13));
        LeakyLine x = Check.told("wire days 3 law 1 odds 0 volts 9; span 1 leak 6; span 1 leak 4; span 1 leak 5; wet 2;");
        s.due("worst(1)", 1, x.worst(1));
        s.due("worst(2), 3, 2 and 2", 1, x.worst(2));
        x.cups(1, 1);
        s.due("worst(1), CUPPED", 2, x.worst(1));
        x.snaps(0, 0);
        s.due("worst(1), broken or not", 2, x.worst(1));
        s.promise(29, "NONE: there are none;");
        s.due("worst(0)", -1, Check.told(Wires.NO_SPANS).worst(0));
        s.promise(29, "-2: there is no such DAY, no WIRE.");
        days("worst()", Check.told(Wires.PLAIN)::worst);
        s.due("worst(4) without POLES", -2, Check.told(Wires.NO_SPANS).worst(4));
        noWire("worst(0)", -2, z -> z.worst(0));
    }

    private void damp() {
        s.promise(30, "How much LEAK of a POLE is less on a DAY than it would be, were no DAY WET (CUPPED as now).");
        s.due("damp(0, 1) by LAW 0", 0, Check.told(Wires.wet(0, 5)).damp(0, 1));
        s.due("damp(0, 0), dry", 0, Check.told(Wires.wet(1, 5)).damp(0, 0));
        s.due("damp(0, 1), WET", 3, Check.told(Wires.wet(1, 5)).damp(0, 1));
        s.due("damp(0, 3), behind a WET one", 3, Check.told(Wires.wet(2, 5)).damp(0, 3));
        s.due("damp(0, 4)", 0, Check.told(Wires.wet(2, 5)).damp(0, 4));
        s.due("damp(0, 5) by LAW 3", 2, Check.told(Wires.wet(3, 5)).damp(0, 5));
        s.due("damp(0, 2) of 1: nothing to lose", 0, Check.told(Wires.pole(2, 3, 1, "wet 0; wet 1; wet 2;")).damp(0, 2));
        LeakyLine x = Check.told(Wires.wet(1, 5));
        x.cups(0, 2);
        s.due("damp(0, 2), CUPPED as now", 15, x.damp(0, 2));
        s.due("damp(0, 1), not CUPPED yet", 3, x.damp(0, 1));
        s.promise(30, "-2: there are none such.");
        LeakyLine y = Check.told(Wires.PLAIN);
        poles("damp(.., 0)", -2, pole -> y.damp(pole, 0));
        days("damp(0, ..)", day -> y.damp(0, day));
        noWire("damp(0, 0)", -2, z -> z.damp(0, 0));
    }

    private void spellAndDry() {
        String six = "wet 0; wet 1; wet 2; wet 3; wet 4; wet 5;";
        s.promise(31, "The most DAYS one behind the other that are WET.");
        s.due("spell(), none", 0, Check.told(Wires.PLAIN).spell());
        s.due("spell(), none that are there", 0, Check.told(Wires.pole(3, 0, 1, "wet 4; wet 5;")).spell());
        s.due("spell(), all", 6, Check.told(Wires.pole(5, 0, 1, six)).spell());
        s.due("spell(), the last ones", 2, Check.told(Wires.pole(13, 0, 1, "wet 0; wet 13; wet 12;")).spell());
        s.due("spell(), those that are there", 1, Check.told(Wires.pole(12, 0, 1, "wet 13; wet 12;")).spell());
        s.due("spell(), one told twice", 1, Check.told(Wires.pole(3, 0, 1, "wet 1; wet 1;")).spell());
        s.promise(31, "-2: there is no WIRE.");
        noWire("spell()", -2, LeakyLine::spell);
        s.promise(35, "The most DAYS one behind the other that are not WET.");
        s.due("dry(), all", 14, Check.told(Wires.LONG).dry());
        s.due("dry(), none", 0, Check.told(Wires.pole(5, 0, 1, six)).dry());
        s.due("dry(), the last one alone", 1, Check.told(Wires.pole(6, 0, 1, six)).dry());
        s.due("dry(), the first ones", 3, Check.told(Wires.pole(5, 0, 1, "wet 3;")).dry());
        s.due("dry(), the last ones", 3, Check.told(Wires.pole(5, 0, 1, "wet 2;")).dry());
        s.promise(35, "-2: there is no WIRE.");
        noWire("dry()", -2, LeakyLine::dry);
    }

    private void margin() {
        s.promise(32, "By how many whole VOLTS (cut) a STATION has more than it needs on a DAY (0, if not more).");
        LeakyLine x = Check.told(Wires.TWO_OF_THREE);
        s.due("margin(0, 0): 200 / 21 less 5", 4, x.margin(0, 0));
        s.due("margin(1, 0): 80 / 21 of 6", 0, x.margin(1, 0));
        x.rate(0, 9);
        s.due("margin(0, 0): 200 / 21 less 9", 0, x.margin(0, 0));
        x.rate(0, 8);
        s.due("margin(0, 0): 200 / 21 less 8", 1, x.margin(0, 0));
        x.rate(0, 0);
        s.due("margin(0, 0): 200 / 21 less 0", 9, x.margin(0, 0));
        x.snaps(0, 1);
        s.due("margin(0, 1): 0 less 0", 0, x.margin(0, 1));
        s.due("margin(1, 1): 0 of 6", 0, x.margin(1, 1));
        s.due("margin(0, 0) of PLAIN: 5 of 5", 0, Check.told(Wires.PLAIN).margin(0, 0));
        LeakyLine y = Check.told(Wires.PLAIN);
        y.rate(0, 4);
        s.due("margin(0, 0) of PLAIN: 5 of 4", 1, y.margin(0, 0));
        s.promise(32, "-2: there are none such.");
        stations("margin(.., 0)", (z, pole) -> z.margin(pole, 0));
        days("margin(0, ..)", day -> y.margin(0, day));
    }

    private void rises() {
        s.promise(34, "On how many DAYS from 1 on LEAK of a POLE is more than on the one ahead.");
        s.due("rises(0), never", 0, Check.told(Wires.PLAIN).rises(0));
        s.due("rises(0), on DAY 1", 1, Check.told(Wires.pole(3, 1, 9, "wet 0;")).rises(0));
        s.due("rises(0), it falls on the last", 0, Check.told(Wires.pole(3, 1, 9, "wet 3;")).rises(0));
        s.due("rises(0), on the last", 1, Check.told(Wires.pole(3, 1, 9, "wet 2;")).rises(0));
        s.due("rises(0), 1 stays 1", 0, Check.told(Wires.pole(3, 1, 1, "wet 1;")).rises(0));
        LeakyLine x = Check.told(Wires.pole(3, 0, 30, ""));
        x.cups(0, 2);
        s.due("rises(0), 30 stays 30", 0, x.rises(0));
        s.due("rises(0) by LAW 3, it falls alone", 0, Check.told(Wires.pole(3, 3, 9, "wet 1; wet 3;")).rises(0));
        x = Check.told(Wires.pole(3, 0, 29, ""));
        x.cups(0, 0);
        s.due("rises(0), CUPPED on DAY 0", 0, x.rises(0));
        x.undo();
        x.cups(0, 1);
        s.due("rises(0), CUPPED on DAY 1", 1, x.rises(0));
        s.promise(34, "-2: there is none such.");
        poles("rises()", -2, Check.told(Wires.PLAIN)::rises);
        s.due("rises(0) without POLES", -2, Check.told(Wires.NO_SPANS).rises(0));
        noWire("rises(0)", -2, z -> z.rises(0));
    }

    private void endsAndReach() {
        LeakyLine x = Check.told(Wires.LONG);
        x.snaps(3, 1);
        x.snaps(1, 2);
        x.snaps(0, 3);
        s.promise(36, "The last POLE to which a SPAN leads on a DAY.");
        s.due("ends(0)", 4, x.ends(0));
        s.due("ends(1)", 2, x.ends(1));
        s.due("ends(2)", 0, x.ends(2));
        s.promise(36, "NONE: none does;");
        s.due("ends(3)", -1, x.ends(3));
        s.due("ends(0) without SPANS", -1, Check.told(Wires.NO_SPANS).ends(0));
        s.promise(36, "-2: there is no such DAY, no WIRE.");
        days("ends()", Check.told(Wires.PLAIN)::ends);
        s.due("ends(4) without SPANS", -2, Check.told(Wires.NO_SPANS).ends(4));
        noWire("ends(0)", -2, z -> z.ends(0));
        s.promise(37, "The last STATION that HEARS on a DAY.");
        s.due("reach(0)", 4, x.reach(0));
        s.due("reach(3): who needs 0 HEARS behind what is broken", 4, x.reach(3));
        s.due("reach(0) of PLAIN", 0, Check.told(Wires.PLAIN).reach(0));
        s.promise(37, "NONE: none does;");
        s.due("reach(0) without STATIONS", -1, Check.told(Wires.NO_STATIONS).reach(0));
        LeakyLine deaf = dryHears(2, "wet 1;");
        s.due("reach(0)", 0, deaf.reach(0));
        s.due("reach(1)", -1, deaf.reach(1));
        s.promise(37, "-2 likewise.");
        days("reach()", Check.told(Wires.PLAIN)::reach);
        s.due("reach(3) without STATIONS", -2, Check.told(Wires.NO_STATIONS).reach(3));
        noWire("reach(0)", -2, z -> z.reach(0));
    }

    private void pairs() {
        // dry: both HEAR; DAY 1, WET: 240 / 31 of 5, 5.8 of 6
        LeakyLine x = Check.told("wire days 3 law 1 odds 5 volts 12; span 1 leak 5 needs 5; span 5 leak 30 needs 6; wet 1;");
        LeakyLine most = Check.told(Wires.LONG);
        s.promise(38, "On how many DAYS two STATIONS (one twice, too) both HEAR.");
        s.due("both(0, 1)", 3, x.both(0, 1));
        s.due("both(1, 0)", 3, x.both(1, 0));
        s.due("both(0, 0)", 4, x.both(0, 0));
        s.due("both(1, 1)", 3, x.both(1, 1));
        s.due("both(0, 1) of PLAIN, none", 0, Check.told(Wires.PLAIN).both(0, 1));
        s.due("both(0, 4), all", 14, most.both(0, 4));
        s.promise(38, "-2: there are none such.");
        stations("both(.., 0)", (z, pole) -> z.both(pole, 0));
        stations("both(0, ..)", (z, pole) -> z.both(0, pole));
        s.promise(39, "On how many DAYS just one of them does.");
        s.due("apart(0, 1)", 1, x.apart(0, 1));
        s.due("apart(1, 0)", 1, x.apart(1, 0));
        s.due("apart(0, 0)", 0, x.apart(0, 0));
        s.due("apart(1, 1)", 0, x.apart(1, 1));
        s.due("apart(0, 1) of PLAIN, all", 5, Check.told(Wires.PLAIN).apart(0, 1));
        s.due("apart(0, 4), none", 0, most.apart(0, 4));
        most.rate(4, 60);
        s.due("apart(0, 4), all", 14, most.apart(0, 4));
        most.rate(3, 60);
        s.due("apart(3, 4), neither does", 0, most.apart(3, 4));
        s.promise(39, "-2 likewise.");
        stations("apart(.., 0)", (z, pole) -> z.apart(pole, 0));
        stations("apart(0, ..)", (z, pole) -> z.apart(0, pole));
    }

    private void half() {
        s.promise(40, "The first POLE at which there is half of the battery's VOLTS or less on a DAY.");
        s.due("half(0) of PLAIN, just half", 0, Check.told(Wires.PLAIN).half(0));
        // 2 || (1 + 2) = 6 / 5 of 11 / 5: 6 / 11, and 4 / 11 at POLE 1
        LeakyLine x = Check.told("wire days 3 law 0 odds 0 volts 11; span 1 leak 2; span 1 leak 2; span 1 leak 30;");
        x.snaps(2, 0);
        s.due("half(0)", 1, x.half(0));
        x.snaps(1, 1);
        s.due("half(1): nothing behind what is broken", 1, x.half(1));
        x.snaps(0, 2);
        s.due("half(2)", 0, x.half(2));
        // 3 / 2 of 3 VOLTS
        x = Check.told("wire days 1 law 0 odds 0 volts 3; span 1 leak 1;");
        s.due("half(0), half of an odd number", 0, x.half(0));
        x = Check.told("wire days 1 law 0 odds 0 volts 5; span 5 leak 6;");
        s.due("half(0), 30 / 11 of 5", -1, x.half(0));
        s.promise(40, "NONE: none;");
        s.due("half(0)", -1, Check.told(Wires.pole(1, 0, 5, "")).half(0));
        s.due("half(0) without POLES", -1, Check.told(Wires.NO_SPANS).half(0));
        s.promise(40, "-2: there is no such DAY, no WIRE.");
        days("half()", Check.told(Wires.PLAIN)::half);
        s.due("half(4) without POLES", -2, Check.told(Wires.NO_SPANS).half(4));
        noWire("half(0)", -2, z -> z.half(0));
    }

    private void groundsAndSteep() {
        s.promise(41, "LEAKS of all POLES on a DAY, together.");
        s.due("grounds(13), the most", 150, Check.told(Wires.LONG).grounds(13));
        s.due("grounds(0) without POLES", 0, Check.told(Wires.NO_SPANS).grounds(0));
        LeakyLine x = Check.told(Wires.PLAIN);
        x.snaps(0, 0);
        s.due("grounds(4), broken or not", 3, x.grounds(4));
        x.cups(1, 4);
        s.due("grounds(4), CUPPED", 32, x.grounds(4));
        s.due("grounds(3), not yet", 3, x.grounds(3));
        s.due("grounds(1), WET", 2, Check.told(Wires.wet(1, 0)).grounds(1));
        s.promise(41, "-2 likewise.");
        days("grounds()", Check.told(Wires.PLAIN)::grounds);
        noWire("grounds(0)", -2, z -> z.grounds(0));
        s.promise(42, "The SPAN by which VOLTS fall most on a DAY, the first of several.");
        // half of the current goes on, over twice the ohms
        s.due("steep(0), two alike", 0, Check.told("wire days 1 law 0 odds 0 volts 10; span 1 leak 3; span 2 leak 1;").steep(0));
        x = Check.told("wire days 1 law 0 odds 0 volts 31; span 1 leak 30; span 12 leak 2;");
        s.due("steep(0), the last", 1, x.steep(0));
        x.snaps(1, 1);
        s.due("steep(1), what does not lead aside", 0, x.steep(1));
        s.promise(42, "NONE: none leads;");
        x.snaps(0, 1);
        s.due("steep(1)", -1, x.steep(1));
        s.due("steep(0)", 1, x.steep(0));
        s.due("steep(0) without SPANS", -1, Check.told(Wires.NO_SPANS).steep(0));
        s.promise(42, "-2 likewise.");
        days("steep()", Check.told(Wires.PLAIN)::steep);
        s.due("steep(4) without SPANS", -2, Check.told(Wires.NO_SPANS).steep(4));
        noWire("steep(0)", -2, z -> z.steep(0));
    }

    private void muteAndChanges() {
        s.promise(43, "DAYS on which no STATION HEARS, as bits.");
        s.due("mute(), none", 0, Check.told(Wires.LONG).mute());
        s.due("mute(), the first and the last", 0b1001, dryHears(3, "wet 0; wet 3;").mute());
        s.due("mute() of PLAIN: one of two HEARS", 0, Check.told(Wires.PLAIN).mute());
        LeakyLine x = Check.told(Wires.LONG);
        for (int pole = 0; pole < 5; pole++) {
            x.rate(pole, 60);
        }
        s.due("mute(), all", (1 << 14) - 1, x.mute());
        s.due("mute() without STATIONS", 7, Check.told(Wires.NO_STATIONS).mute());
        s.due("mute() without POLES", 15, Check.told(Wires.NO_SPANS).mute());
        s.promise(43, "-2: there is no WIRE.");
        noWire("mute()", -2, LeakyLine::mute);
        s.promise(44, "On how many DAYS from 1 on hears() is otherwise than on the one ahead.");
        s.due("changes(), never", 0, Check.told(Wires.LONG).changes());
        s.due("changes(), on DAY 1", 1, dryHears(3, "wet 0;").changes());
        s.due("changes(), on the last", 1, dryHears(3, "wet 3;").changes());
        s.due("changes(), on each", 13, dryHears(13, "wet 0; wet 2; wet 4; wet 6; wet 8; wet 10; wet 12;").changes());
        // who HEARS is another, how many is not: POLE 1 is cut off, POLE 0 has 5 to 20 / 3 then
        x = Check.told("wire days 2 law 0 odds 5 volts 10; span 1 leak 2 needs 6; span 1 leak 1 needs 2;");
        x.snaps(1, 1);
        s.due("hears(0)", 2, x.hears(0));
        s.due("hears(1)", 1, x.hears(1));
        s.due("changes(), one for another", 1, x.changes());
        s.due("changes() without STATIONS", 0, Check.told(Wires.NO_STATIONS).changes());
        s.promise(44, "-2 likewise.");
        noWire("changes()", -2, LeakyLine::changes);
    }

    private void allAndWithout() {
        s.promise(45, "sum(), were all POLES CUPPED on DAY 0 (besides, ahead of acts).");
        LeakyLine x = Check.told(Wires.PLAIN);
        s.due("all()", 10, x.all());
        s.due("sum() stays", 5, x.sum());
        x.cups(1, 4);
        s.due("all(), an act besides", 10, x.all());
        x.snaps(1, 2);
        s.due("all(), what is broken stays so", 7, x.all());
        // by LAW 3 the latest CUP counts, which is the act: 30 of 31 on DAYS 1 and 2 alone
        x = Check.told("wire days 2 law 3 odds 0 volts 31; span 1 leak 9 needs 30; wet 0;");
        s.due("all(), DAY 0 is WET", 0, x.all());
        x.cups(0, 1);
        s.due("all(), ahead of acts", 2, x.all());
        s.due("all() without STATIONS", 0, Check.told(Wires.NO_STATIONS).all());
        s.due("all() without POLES", 0, Check.told(Wires.NO_SPANS).all());
        s.promise(45, "-2 likewise.");
        noWire("all()", -2, LeakyLine::all);
        s.promise(46, "sum(), were a SPAN broken from DAY 0 on (besides those of acts).");
        x = Check.told(Wires.PLAIN);
        s.due("without(1)", 5, x.without(1));
        s.due("without(0)", 0, x.without(0));
        s.due("sum() stays", 5, x.sum());
        x.snaps(0, 2);
        s.due("without(1), SPAN 0 by an act", 2, x.without(1));
        s.due("without(0) of who need 0", 70, Check.told(Wires.LONG).without(0));
        s.promise(46, "-2: there is none such.");
        poles("without()", -2, Check.told(Wires.PLAIN)::without);
        s.due("without(0) without SPANS", -2, Check.told(Wires.NO_SPANS).without(0));
        noWire("without(0)", -2, z -> z.without(0));
    }

    private void cuppedAndSnapped() {
        s.promise(47, "The latest DAY, not later than a DAY, on which a POLE was CUPPED by acts.");
        LeakyLine x = Check.told(Wires.LONG);
        x.cups(0, 13);
        x.cups(0, 0);
        x.cups(0, 5);
        s.due("cupped(0, 0)", 0, x.cupped(0, 0));
        s.due("cupped(0, 4)", 0, x.cupped(0, 4));
        s.due("cupped(0, 5)", 5, x.cupped(0, 5));
        s.due("cupped(0, 12)", 5, x.cupped(0, 12));
        s.due("cupped(0, 13)", 13, x.cupped(0, 13));
        x.undo();
        s.due("cupped(0, 12), taken back", 0, x.cupped(0, 12));
        s.promise(47, "NONE: on none;");
        s.due("cupped(1, 13)", -1, x.cupped(1, 13));
        x.cups(1, 13);
        s.due("cupped(1, 12), later alone", -1, x.cupped(1, 12));
        x.snaps(2, 0);
        s.due("cupped(2, 13), broken alone", -1, x.cupped(2, 13));
        s.promise(47, "-2: there are none such.");
        LeakyLine y = Check.told(Wires.PLAIN);
        poles("cupped(.., 0)", -2, pole -> y.cupped(pole, 0));
        days("cupped(0, ..)", day -> y.cupped(0, day));
        noWire("cupped(0, 0)", -2, z -> z.cupped(0, 0));
        s.promise(48, "The first DAY on which a SPAN is broken by acts.");
        x = Check.told(Wires.LONG);
        x.snaps(1, 13);
        s.due("snapped(1), the last DAY", 13, x.snapped(1));
        x.snaps(1, 0);
        x.snaps(1, 7);
        s.due("snapped(1), the first of three", 0, x.snapped(1));
        x.undo();
        x.undo();
        s.due("snapped(1), taken back", 13, x.snapped(1));
        s.promise(48, "NONE: on none;");
        s.due("snapped(0)", -1, x.snapped(0));
        s.due("snapped(2), behind what is broken", -1, x.snapped(2));
        x.cups(3, 0);
        s.due("snapped(3), CUPPED alone", -1, x.snapped(3));
        s.promise(48, "-2: there is none such.");
        poles("snapped()", -2, y::snapped);
        s.due("snapped(0) without SPANS", -2, Check.told(Wires.NO_SPANS).snapped(0));
        noWire("snapped(0)", -2, z -> z.snapped(0));
    }

    private void lack() {
        s.promise(49, "How many whole VOLTS (what each needs less whole() there) STATIONS that do not HEAR lack on a DAY, together.");
        LeakyLine x = Check.told(Wires.TWO_OF_THREE);
        s.due("lack(0): 6 less 3", 3, x.lack(0));
        x.snaps(0, 1);
        s.due("lack(1): 5 and 6", 11, x.lack(1));
        s.due("lack(0) of PLAIN: 3 less 2, who HEARS aside", 1, Check.told(Wires.PLAIN).lack(0));
        s.due("lack(0), none", 0, Check.told(Wires.LONG).lack(0));
        x = Check.told(Wires.LONG);
        for (int pole = 0; pole < 5; pole++) {
            x.rate(pole, 60);
        }
        x.snaps(0, 13);
        s.due("lack(13), the most", 300, x.lack(13));
        s.due("lack(0) without STATIONS", 0, Check.told(Wires.NO_STATIONS).lack(0));
        s.promise(49, "-2: there is no such DAY, no WIRE.");
        days("lack()", Check.told(Wires.PLAIN)::lack);
        noWire("lack(0)", -2, z -> z.lack(0));
    }

    private void loud() {
        s.promise(50, "The STATION that has most VOLTS on a DAY, the first of several.");
        LeakyLine x = Check.told("wire days 3 law 0 odds 0 volts 9; span 1 leak 9; span 1 leak 9 needs 60; span 1 leak 9 needs 1;");
        s.due("loud(0), a POLE without a STATION aside", 1, x.loud(0));
        x.snaps(0, 1);
        s.due("loud(1): all have none", 1, x.loud(1));
        s.due("loud(0), all five", 0, Check.told(Wires.LONG).loud(0));
        s.promise(50, "NONE: there are none;");
        s.due("loud(0)", -1, Check.told(Wires.NO_STATIONS).loud(0));
        s.due("loud(0) without POLES", -1, Check.told(Wires.NO_SPANS).loud(0));
        s.promise(50, "-2 likewise.");
        days("loud()", Check.told(Wires.PLAIN)::loud);
        s.due("loud(3) without STATIONS", -2, Check.told(Wires.NO_STATIONS).loud(3));
        noWire("loud(0)", -2, z -> z.loud(0));
    }

    private void weakestAndStrong() {
        String five = "wire days 2 law 0 odds 0 volts 10; span 1 leak 30; span 1 leak 30 needs 60; span 1 leak 30 needs 1;"
                + "span 1 leak 30 needs 2; span 1 leak 9 needs 50;";
        s.promise(51, "The STATION that HEARS on fewest DAYS, the first of several.");
        LeakyLine x = Check.told(five);
        s.due("weakest(), 1 and 4 on none", 1, x.weakest());
        s.due("weakest(), all alike", 0, Check.told(Wires.LONG).weakest());
        x.rate(1, 0);
        s.due("weakest(), the last", 4, x.weakest());
        // POLE 1 has less than 10 on a WET DAY, POLE 0 HEARS on all
        String pair = "wire days 2 law 1 odds 0 volts 12; span 1 leak 5 needs 1; span 1 leak 30 needs 9;";
        s.due("weakest(), by DAY 0 alone", 1, Check.told(pair + "wet 0;").weakest());
        s.due("weakest(), by the last DAY alone", 1, Check.told(pair + "wet 2;").weakest());
        s.promise(51, "NONE: there are none;");
        s.due("weakest()", -1, Check.told(Wires.NO_STATIONS).weakest());
        s.due("weakest() without POLES", -1, Check.told(Wires.NO_SPANS).weakest());
        s.promise(51, "-2: there is no WIRE.");
        noWire("weakest()", -2, LeakyLine::weakest);
        s.promise(52, "That which does on most, likewise.");
        x = Check.told(five);
        s.due("strong(), 2 and 3 on all", 2, x.strong());
        x.rate(2, 60);
        s.due("strong(), one later", 3, x.strong());
        x.rate(3, 60);
        s.due("strong(), all on none", 1, x.strong());
        s.due("strong(), all on all", 0, Check.told(Wires.LONG).strong());
        x = Check.told("wire days 2 law 1 odds 0 volts 12; span 1 leak 5 needs 9; span 1 leak 30 needs 1; wet 0;");
        s.due("strong(), by DAY 0 alone", 1, x.strong());
        x = Check.told("wire days 2 law 1 odds 0 volts 12; span 1 leak 5 needs 9; span 1 leak 30 needs 1; wet 2;");
        s.due("strong(), by the last DAY alone", 1, x.strong());
        s.due("strong() without STATIONS", -1, Check.told(Wires.NO_STATIONS).strong());
        s.due("strong() without POLES", -1, Check.told(Wires.NO_SPANS).strong());
        noWire("strong()", -2, LeakyLine::strong);
    }
}
