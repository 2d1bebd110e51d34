import java.util.Arrays;

/** The edges that the Terms name, sentence by sentence. */
final class TermEdges extends Edges {
    TermEdges(Sentences s) {
        super(s);
    }

    @Override
    void all() {
        grammar();
        bounds();
        numbering();
        tokens();
        faults();
        slots();
        order();
        stationsAndWetDays();
        grounds();
        laws();
        lawThree();
        broken();
        ladder();
        seen();
        worths();
        games();
        chances();
        draws();
    }

    private void taken(String text, int lines) {
        LeakyLine x = new LeakyLine();
        s.due("wire() of '" + text + "'", lines, Check.tell(x, text));
        s.due("fault(0) of '" + text + "'", 0, x.fault(0));
        s.due("fault(1) of '" + text + "'", -1, x.fault(1));
    }

    private void faulty(String text, int kind, int place) {
        LeakyLine x = new LeakyLine();
        s.due("wire() of '" + text + "'", -4, Check.tell(x, text));
        s.due("fault(0) of '" + text + "'", kind, x.fault(0));
        s.due("fault(1) of '" + text + "'", place, x.fault(1));
    }

    /** Words that are almost the last one of a text, which stands at a place. */
    private void alike(String text, int place, String others) {
        for (String other : others.split(" ")) {
            faulty(text.substring(0, place) + other + " 3", 1, place);
        }
    }

    /** A number at the end of ahead is taken from least to most, and is FAULT 2 beyond. */
    private void bounded(String ahead, String behind, int least, int most) {
        int lines = ahead.startsWith(Wires.HEAD) ? 2 : 1;
        taken(ahead + least + behind, lines);
        taken(ahead + most + behind, lines);
        if (least > 0) {
            faulty(ahead + (least - 1) + behind, 2, ahead.length());
        }
        faulty(ahead + (most + 1) + behind, 2, ahead.length());
        faulty(ahead + most + "0" + behind, 2, ahead.length());
        faulty(ahead + (4294967296L + most) + behind, 2, ahead.length());
        faulty(ahead + "18446744073709551616" + most + behind, 2, ahead.length());
        taken(ahead + "00000000000000000000" + most + behind, lines);
        faulty(ahead + "-" + most + behind, 1, ahead.length());
    }

    private void grammar() {
        s.term("I", "WIRE: {LINE ;}.");
        taken("", 0);
        taken(Wires.HEAD, 1);
        faulty(Wires.HEAD.substring(0, 32), 1, 32);
        faulty(Wires.HEAD + ";", 1, 33);
        faulty(Wires.HEAD + "wet 1", 1, 38);
        faulty(";", 1, 0);
        s.term("I", "LINE: wire days N law N odds N volts N | span N leak N [needs N] | wet N.");
        taken("wire days 1 law 0 odds 0 volts 1; span 1 leak 1; span 1 leak 1 needs 0; wet 0;", 4);
        faulty("wire law 0 days 1 odds 0 volts 1;", 1, 5);
        faulty("wire days 1 odds 0 law 0 volts 1;", 1, 12);
        faulty("wire days 1 law 0 volts 1 odds 0;", 1, 18);
        faulty("wire days 1 law 0 odds 0;", 1, 24);
        faulty("wire days law 0 odds 0 volts 1;", 1, 10);
        faulty("wire days 1 law 0 odds 0 volts 1 2;", 1, 33);
        faulty(Wires.HEAD + "span leak 1;", 1, 38);
        faulty(Wires.HEAD + "span 1 1;", 1, 40);
        faulty(Wires.HEAD + "span 1 needs 1 leak 1;", 1, 40);
        faulty(Wires.HEAD + "span 1 leak needs 1;", 1, 45);
        faulty(Wires.HEAD + "span 1 leak 1 needs;", 1, 52);
        faulty(Wires.HEAD + "span 1 leak 1 needs 1 needs 1;", 1, 55);
        faulty(Wires.HEAD + "wet;", 1, 36);
        faulty(Wires.HEAD + "wet 1 1;", 1, 39);
        s.term("I", "wire is the first LINE and no other:");
        faulty(Wires.HEAD + Wires.HEAD, 1, 33);
        faulty(Wires.HEAD + "wet 1;" + Wires.HEAD, 1, 39);
        faulty("span 1 leak 1;" + Wires.HEAD, 1, 0);
        faulty("wet 1;" + Wires.HEAD, 1, 0);
    }

    private void bounds() {
        s.term("I", "days 1 .. 13, law 0 .. 3, odds 0 .. 10, volts 1 .. 60.");
        bounded("wire days ", " law 0 odds 0 volts 1;", 1, 13);
        bounded("wire days 1 law ", " odds 0 volts 1;", 0, 3);
        bounded("wire days 1 law 0 odds ", " volts 1;", 0, 10);
        bounded("wire days 1 law 0 odds 0 volts ", ";", 1, 60);
        s.term("I", "span: ohms 1 .. 12, leak 1 .. 30, needs 0 .. 60.");
        bounded(Wires.HEAD + "span ", " leak 1;", 1, 12);
        bounded(Wires.HEAD + "span 1 leak ", ";", 1, 30);
        bounded(Wires.HEAD + "span 1 leak 1 needs ", ";", 0, 60);
        s.term("I", "wet: a DAY 0 .. 13.");
        bounded(Wires.HEAD + "wet ", ";", 0, 13);
    }

    private void numbering() {
        s.term("I", "SPANS 0 .. 4 are numbered as they stand, POLE k stands at the end of SPAN k;");
        LeakyLine x = Check.told("wire days 1 law 0 odds 0 volts 9; span 5 leak 10 needs 20; wet 0; span 6 leak 11;"
                + "span 7 leak 12 needs 22; wet 1; wet 1; span 8 leak 13 needs 23; span 9 leak 14 needs 24;");
        for (int k = 0; k < 5; k++) {
            s.due("span(" + k + ", 0)", 5 + k, x.span(k, 0));
            s.due("span(" + k + ", 1)", 10 + k, x.span(k, 1));
            s.due("span(" + k + ", 2)", k == 1 ? -1 : 20 + k, x.span(k, 2));
            s.due("leak(" + k + ", 0)", 10 + k, x.leak(k, 0));
        }
        s.due("span(5, 0)", -2, x.span(5, 0));
        s.term("I", "wet LINES are 8 at most.");
        taken(Wires.HEAD + "wet 3;".repeat(8), 9);
        faulty(Wires.HEAD + "wet 3;".repeat(9), 3, 33 + 48);
        s.term("I", "DAYS 0 .. days.");
        for (int days = 1; days <= 13; days += 12) {
            LeakyLine y = Check.told(Wires.pole(days, 0, 7, ""));
            s.refusedBeyond("leak(0, ..) of days " + days, -2, 0, days, d -> y.leak(0, d));
            s.due("dry() of days " + days, days + 1, y.dry());
        }
    }

    private void tokens() {
        s.term("I", "TOKENS, blanks (32, 10) aside, the longest: words (a .. z), numbers (digits), the sign ; .");
        taken("\n \nwire\ndays\n\n3 law0odds   5\nvolts 9\n;\n", 1);
        taken("wire days3law0odds5volts9;span1leak1needs0;wet1;", 3);
        for (char none : new char[] {0, 9, 11, 12, 13, 31, 33, '/', ':', '<', '@', 'A', 'Z', '[', '`', '{', 127, 128, 133, 160,
            '0' + 128, ';' + 128, 255}) {
            faulty("wire" + none + "days 3 law 0 odds 5 volts 9;", 1, 4);
            faulty(Wires.HEAD + none, 1, 33);
            faulty("wire days 3" + none + " law 0 odds 5 volts 9;", 1, 11);
        }
        faulty("wiredays 3 law 0 odds 5 volts 9;", 1, 0);
        faulty("wir e days 3 law 0 odds 5 volts 9;", 1, 0);
        faulty("wires days 3 law 0 odds 5 volts 9;", 1, 0);
        faulty("wire dayss 3 law 0 odds 5 volts 9;", 1, 5);
        faulty("wire day 3 law 0 odds 5 volts 9;", 1, 5);
        for (char letter = 'a'; letter <= 'z'; letter++) {
            faulty("wire" + letter + " days 3", 1, 0);
            faulty(letter + "wire days 3", 1, 0);
        }
        alike("wire", 0, "wise wirf xire");
        alike("wire days", 5, "dais dayt eays");
        alike("wire days 3 law", 12, "lew lax kaw leak");
        alike("wire days 3 law 0 odds", 18, "adds oddt olds");
        alike("wire days 3 law 0 odds 5 volts", 25, "volta bolts vults");
        alike(Wires.HEAD + "span", 33, "spin spam scan spaz");
        alike(Wires.HEAD + "span 3 leak", 40, "lean beak loak law");
        alike(Wires.HEAD + "span 3 leak 4 needs", 47, "needy seeds neids");
        alike(Wires.HEAD + "wet", 33, "wit web set wire");
        faulty("wire days 1 3 law 0 odds 5 volts 9;", 1, 12);
        s.due("days of 13, not 1", 13, Check.told("wire days 13 law 0 odds 5 volts 9;").count(0));
    }

    private void faults() {
        s.term("I", "FAULTS, the first by its place (a TOKEN's first byte; the end's), of one place the least:");
        faulty("wire days 0 law 9 ?", 2, 10);
        faulty("wire days ? law 9", 1, 10);
        faulty("   wire   days   14", 2, 17);
        faulty("wire", 1, 4);
        faulty("wire  \n ", 1, 8);
        faulty("wire days 3", 1, 11);
        faulty("wire days 3 law 0 odds 5 volts 9 \n", 1, 34);
        // a number that can't stand there is out of all bounds, too
        faulty("wire days 3 99", 1, 12);
        faulty("99", 1, 0);
        faulty(Wires.HEAD + "99;", 1, 33);
        // a 6th span that can't stand there
        faulty(Wires.HEAD + "span 1 leak 1;".repeat(5) + "wet span", 1, 33 + 70 + 4);
        s.term("I", "1 a TOKEN that is none, or can't stand there (wire behind the first LINE, another word ahead of it).");
        faulty("#", 1, 0);
        faulty("telegraph days 3", 1, 0);
        faulty("days 3", 1, 0);
        faulty("wet 3;", 1, 0);
        faulty("span 3 leak 3;", 1, 0);
        faulty(Wires.HEAD + "wire", 1, 33);
        faulty(Wires.HEAD + "days 3;", 1, 33);
        faulty(Wires.HEAD + "needs 3;", 1, 33);
        faulty(Wires.HEAD + "leak 3;", 1, 33);
        s.term("I", "2 a number out of its bounds.");
        faulty("wire days 14", 2, 10);
        faulty(Wires.HEAD + "span 99999999999999999999999999", 2, 38);
        s.term("I", "3 a 6th span, 9th wet, at its word.");
        taken(Wires.HEAD + "span 1 leak 1;".repeat(5) + "wet 1;".repeat(8), 14);
        faulty(Wires.HEAD + "span 1 leak 1;".repeat(5) + "  span 99 ?", 3, 33 + 70 + 2);
        faulty(Wires.HEAD + "span 1 leak 1;".repeat(5) + "span", 3, 33 + 70);
        faulty(Wires.HEAD + "wet 1;".repeat(8) + "\nwet 99 ?", 3, 33 + 48 + 1);
        faulty(Wires.HEAD + "wet 1;".repeat(8) + "wet", 3, 33 + 48);
        faulty(Wires.HEAD + "wet 1;".repeat(8) + "span 1 leak 1;".repeat(6), 3, 33 + 48 + 70);
        faulty(Wires.HEAD + "span 1 leak 1;".repeat(5) + "wet 1;".repeat(9), 3, 33 + 70 + 48);
    }

    private void slots() {
        s.term("I", "SLOTS 0 .. 3 have rows of numbers of 1, 2, 4 or 8 bytes (WIDTH 0 .. 3), at most 60, or nothing.");
        LeakyLine x = Check.told(Wires.PLAIN);
        s.due("count(9): nothing", 0, x.count(9));
        for (int slot = 0; slot < 4; slot++) {
            s.due("write to nothing", -6, x.write(slot, 0, 0));
            s.due("row of 60", 0, x.row(slot, slot, 60));
            s.due("row of 61", -2, x.row(slot, slot, 61));
            s.due("write of the last", 0, x.write(slot, 59, 1));
            s.due("write behind it", -7, x.write(slot, 60, 1));
            s.due("count(9)", slot + 1, x.count(9));
            // DAY 0, 2 / 1, told in a WIDTH: what is above its bytes is cut
            long above = slot == 3 ? 0 : 1L << (8 << slot);
            Check.row(x, slot, slot, above, 2 - above, 1 + 3 * above);
            s.due("laws(" + slot + ") of WIDTH " + slot, 15, x.laws(slot));
            long highest = 1L << ((8 << slot) - 2);
            Check.row(x, slot, slot, 0, 2 + highest, 1);
            s.due("laws(" + slot + ") of a high bit in WIDTH " + slot, 0, x.laws(slot));
        }
    }

    private void order() {
        s.term("I", "-2 (-1,000) is asked ahead of -5, -6.");
        LeakyLine x = Check.told(Wires.PLAIN);
        s.due("fits of nothing, no such POLE", -2, x.fits(0, 2));
        s.due("fits of nothing", -6, x.fits(0, 1));
        s.due("paste of nothing, no such SLOT", -2, x.paste(0, 0, 4, 0, 0));
        s.due("rate ahead of acts", 5, x.rate(0, 5));
        x.cups(0, 0);
        s.due("rate, no such POLE, behind an act", -2, x.rate(2, 5));
        s.due("rate, no such n, behind an act", -2, x.rate(0, 61));
        s.due("rate behind an act", -5, x.rate(0, 5));
        for (int i = 1; i < 30; i++) {
            x.cups(0, 0);
        }
        s.due("cups, no such POLE, behind 30 acts", -2, x.cups(2, 0));
        s.due("cups, no such DAY, behind 30 acts", -2, x.cups(0, 5));
        s.due("cups behind 30 acts", -5, x.cups(0, 0));
        s.due("snaps, no such SPAN, behind 30 acts", -2, x.snaps(2, 0));
        s.due("snaps, no such DAY, behind 30 acts", -2, x.snaps(0, -1));
        s.due("snaps behind 30 acts", -5, x.snaps(0, 0));
        s.due("gets, one twice, behind 30 acts", -1000, x.gets(0, 0, 0, 0));
        LeakyLine none = new LeakyLine();
        s.due("undo without a WIRE, of none", -2, none.undo());
        s.due("spots of nothing without a WIRE", -2, none.spots(0));
        s.due("breaks of nothing without a WIRE", -2, none.breaks(0));
        s.due("laws of nothing without a WIRE", -2, none.laws(0));
        s.due("fits of nothing without a WIRE", -2, none.fits(0, 0));
    }

    private void stationsAndWetDays() {
        s.term("II", "A STATION stands at a POLE of whose SPAN needs is told.");
        LeakyLine x = Check.told("wire days 1 law 0 odds 0 volts 9; span 1 leak 1; span 1 leak 1 needs 0; span 1 leak 1 needs 60;"
                + "span 1 leak 1; span 1 leak 1 needs 1;");
        s.due("stations()", 0b10110, x.stations());
        s.due("when(0)", -2, x.when(0));
        s.due("when(1), needs 0", -1, x.when(1));
        s.due("when(3)", -2, x.when(3));
        s.due("when(4)", 0, x.when(4));
        s.term("II", "WET are the DAYS told (there are).");
        x = Check.told(Wires.pole(3, 0, 7, "wet 13; wet 4; wet 3; wet 0; wet 3;"));
        s.due("wets()", 0b1001, x.wets());
        s.due("count(5)", 5, x.count(5));
        s.due("spell()", 1, x.spell());
        s.due("wets(), none told", 0, Check.told(Wires.pole(3, 0, 7, "")).wets());
        s.due("wets(), none there", 0, Check.told(Wires.pole(3, 0, 7, "wet 4;")).wets());
        s.due("wets(), told ahead of the SPAN", 8,
                Check.told("wire days 3 law 0 odds 0 volts 1; wet 3; span 1 leak 1;").wets());
    }

    private void leaks(String why, LeakyLine x, int... want) {
        for (int day = 0; day < want.length; day++) {
            s.due("leak(0, " + day + ") by LAW " + x.count(1) + why, want[day], x.leak(0, day));
        }
    }

    private void grounds() {
        s.term("III", "LEAK of a POLE on a DAY: its ground is leak as told;");
        leaks("", Check.told(Wires.pole(2, 0, 1, "wet 0;")), 1, 1, 1);
        leaks("", Check.told(Wires.pole(2, 0, 30, "wet 0;")), 30, 30, 30);
        s.term("III", "from a DAY on which it is CUPPED on it is 30.");
        LeakyLine x = Check.told(Wires.pole(3, 0, 7, ""));
        x.cups(0, 3);
        leaks(", the last", x, 7, 7, 7, 30);
        x.cups(0, 1);
        leaks(", an earlier one", x, 7, 30, 30, 30);
        x.cups(0, 0);
        leaks(", the first", x, 30, 30, 30, 30);
    }

    private void laws() {
        s.term("III", "By LAW, 0: its ground.");
        leaks("", Check.told(Wires.pole(3, 0, 7, "wet 1; wet 2;")), 7, 7, 7, 7);
        s.term("III", "1: on a WET DAY half of it (of 30, too; cut, 1 at least).");
        leaks("", Check.told(Wires.pole(3, 1, 30, "wet 0; wet 3;")), 15, 30, 30, 15);
        leaks(", cut", Check.told(Wires.pole(2, 1, 7, "wet 1;")), 7, 3, 7);
        leaks(", cut", Check.told(Wires.pole(2, 1, 3, "wet 1;")), 3, 1, 3);
        leaks(", even", Check.told(Wires.pole(2, 1, 2, "wet 1;")), 2, 1, 2);
        leaks(", 1 at least", Check.told(Wires.pole(2, 1, 1, "wet 1;")), 1, 1, 1);
        LeakyLine x = Check.told(Wires.pole(3, 1, 7, "wet 1; wet 2;"));
        x.cups(0, 2);
        leaks(", of 30, too", x, 7, 3, 15, 30);
        s.term("III", "2: so (once) on a WET DAY, and on the one behind a WET one.");
        leaks("", Check.told(Wires.pole(4, 2, 20, "wet 1;")), 20, 10, 10, 20, 20);
        leaks(", once", Check.told(Wires.pole(4, 2, 20, "wet 0; wet 1; wet 2;")), 10, 10, 10, 10, 20);
        leaks(", the last DAY", Check.told(Wires.pole(2, 2, 20, "wet 2;")), 20, 20, 10);
        leaks(", a DAY that is not there", Check.told(Wires.pole(2, 2, 20, "wet 3; wet 13;")), 20, 20, 20);
        leaks(", 1 at least", Check.told(Wires.pole(2, 2, 1, "wet 0; wet 1;")), 1, 1, 1);
        leaks(", cut", Check.told(Wires.pole(2, 2, 5, "wet 0;")), 2, 2, 5);
        x = Check.told(Wires.pole(3, 2, 7, "wet 1;"));
        x.cups(0, 2);
        leaks(", of 30, too", x, 7, 3, 15, 30);
    }

    private void lawThree() {
        s.term("III", "3: its ground less as many as DAYS are WET from the latest DAY on which it was CUPPED (by acts, or as told"
                + " below; not later than this; 0, if there is none such) to this, both counted (1 at least).");
        leaks("", Check.told(Wires.pole(4, 3, 9, "wet 0; wet 2; wet 4;")), 8, 8, 7, 7, 6);
        leaks(", 1 at least", Check.told(Wires.pole(4, 3, 2, "wet 0; wet 1; wet 2;")), 1, 1, 1, 1, 1);
        leaks(", of 1", Check.told(Wires.pole(1, 3, 1, "wet 1;")), 1, 1);
        leaks(", told twice", Check.told(Wires.pole(2, 3, 9, "wet 1; wet 1; wet 1;")), 9, 8, 8);
        LeakyLine x = Check.told(Wires.pole(5, 3, 9, "wet 0; wet 1; wet 2; wet 4; wet 5;"));
        x.cups(0, 2);
        leaks(", the DAY itself is counted", x, 8, 7, 29, 29, 28, 27);
        x.cups(0, 4);
        leaks(", the latest not later", x, 8, 7, 29, 29, 29, 28);
        x.cups(0, 3);
        leaks(", the latest DAY, not the latest act", x, 8, 7, 29, 30, 29, 28);
        // all five DAYS WET, 30 - 5 at last; needs what 25 gives: 25 / 26 of 26 VOLTS
        String told = "wire days 4 law 3 odds 0 volts 26; span 1 leak 9 needs 25; wet 0; wet 1; wet 2; wet 3; wet 4;";
        x = Check.told(told);
        s.due("sum()", 0, x.sum());
        s.due("all(), CUPPED on DAY 0", 5, x.all());
        s.due("worth(1), CUPPED on DAY 0", 5, x.worth(1));
        x.rate(0, 26);
        s.due("worth(1), 26 are never there", 0, x.worth(1));
        // 30 by 31 of 31 VOLTS are 30: on the DAY of a CUP it is 29 / 30 of 31, that is 29.97
        x = Check.told("wire days 2 law 3 odds 0 volts 31; span 1 leak 9 needs 30; wet 0;");
        s.due("worth(1): DAY 0 is counted", 0, x.worth(1));
        x.cups(0, 1);
        s.due("worth(1): from the act on", 2, x.worth(1));
        s.due("worth(0): from the act on", 2, x.worth(0));
    }

    private void broken() {
        s.term("III", "A SPAN is broken from the first DAY told of it by acts on.");
        LeakyLine x = Check.told(Wires.PLAIN);
        x.snaps(1, 3);
        s.due("joined(2)", 2, x.joined(2));
        s.due("joined(3)", 1, x.joined(3));
        s.due("joined(4)", 1, x.joined(4));
        x.snaps(1, 1);
        s.due("joined(0), told later", 2, x.joined(0));
        s.due("joined(1), told later", 1, x.joined(1));
        x.snaps(1, 4);
        s.due("joined(1), a later DAY", 1, x.joined(1));
        s.term("III", "SPANS lead from 0 on up to the first that is broken.");
        x = Check.told(Wires.LONG);
        x.snaps(3, 5);
        s.due("joined(4)", 5, x.joined(4));
        s.due("joined(5)", 3, x.joined(5));
        x.snaps(4, 4);
        s.due("joined(4)", 4, x.joined(4));
        s.due("joined(5), the first counts", 3, x.joined(5));
        x.snaps(0, 13);
        s.due("joined(12)", 3, x.joined(12));
        s.due("joined(13), none", 0, x.joined(13));
    }

    private void ladder() {
        // 2 + (3 || (1 + 5)) = 4 ohms at 10 VOLTS: 5 / 2 go in, 5 / 3 leak at POLE 0, 5 / 6 at POLE 1
        LeakyLine x = Check.told("wire days 1 law 0 odds 0 volts 10; span 2 leak 3 needs 5; span 1 leak 5 needs 4;");
        s.term("IV", "SPAN 0 goes from the battery (VOLTS) to POLE 0, SPAN 1 from POLE 0 to POLE 1 ..");
        fraction("volts(0, 0)", 5, 1, x.volts(0, 0, 0), x.volts(0, 0, 1));
        fraction("volts(1, 0)", 25, 6, x.volts(1, 0, 0), x.volts(1, 0, 1));
        s.term("IV", "What leads is a ladder: the current through a SPAN is what VOLTS ahead of it are more than behind it,"
                + " by its ohms; at a POLE as much comes as goes on by the next SPAN (by none behind the last that leads) and"
                + " leaks: VOLTS there by LEAK.");
        fraction("falls(0, 0): 5 / 2 by 2 ohms", 5, 1, x.falls(0, 0, 0), x.falls(0, 0, 1));
        fraction("falls(1, 0): 5 / 6 by 1 ohm", 5, 6, x.falls(1, 0, 0), x.falls(1, 0, 1));
        fraction("earth(0, 0)", 5, 3, x.earth(0, 0, 0), x.earth(0, 0, 1));
        fraction("earth(1, 0): nothing goes on", 5, 6, x.earth(1, 0, 0), x.earth(1, 0, 1));
        x.snaps(1, 1);
        fraction("volts(0, 1): nothing goes on, 2 + 3", 6, 1, x.volts(0, 1, 0), x.volts(0, 1, 1));
        fraction("earth(0, 1)", 2, 1, x.earth(0, 1, 0), x.earth(0, 1, 1));
        fraction("earth(1, 1)", 0, 1, x.earth(1, 1, 0), x.earth(1, 1, 1));
        s.term("IV", "READS: VOLTS of the battery by the current through SPAN 0.");
        fraction("ohms(0)", 4, 1, x.ohms(0, 0), x.ohms(0, 1));
        fraction("ohms(1)", 5, 1, x.ohms(1, 0), x.ohms(1, 1));
        LeakyLine most = Check.told("wire days 1 law 0 odds 0 volts 60;" + "span 12 leak 29;".repeat(5));
        fraction("ohms(0) of large numbers", 317094161, 12354581, most.ohms(0, 0), most.ohms(0, 1));
        s.term("IV", "A STATION HEARS, if VOLTS at its POLE (0 behind what is broken) are what it needs, or more.");
        s.due("hears(0): 5 of 5, 25 / 6 of 4", 3, x.hears(0));
        s.due("hears(1): 6 of 5, 0 of 4", 1, x.hears(1));
        x.anew();
        x.rate(0, 6);
        x.rate(1, 5);
        s.due("hears(0): 5 of 6, 25 / 6 of 5", 0, x.hears(0));
        x.rate(1, 0);
        x.rate(0, 0);
        x.snaps(0, 0);
        s.due("hears(0): 0 of 0", 3, x.hears(0));
    }

    private void seen() {
        s.term("V", "SEEN: a SLOT's row, three numbers each: a DAY, above, below of what it READS (as ohms() tells it; both 0 or"
                + " more);");
        LeakyLine x = Check.told(Wires.PLAIN);
        Check.row(x, 0, 3, 0, 2, 1, 4, 2, 1);
        s.due("laws(0)", 15, x.laws(0));
        long[][] wrong = {{0}, {0, 2}, {0, 2, 1, 4}, {0, 2, 1, 4, 2}, {-1, 2, 1}, {5, 2, 1}, {4294967296L, 2, 1},
            {Long.MIN_VALUE, 2, 1}, {Long.MAX_VALUE, 2, 1}, {0, -1, 1}, {0, 2, -1}, {0, Long.MIN_VALUE, 1}, {0, 2, Long.MIN_VALUE},
            {0, 2, 1, 5, 2, 1}, {0, 2, 1, 4, 2, -1}, {0, 9, 1, 4, -2, 1}};
        for (long[] numbers : wrong) {
            Check.row(x, 0, 3, numbers);
            s.due("laws(0) of " + Arrays.toString(numbers), -2, x.laws(0));
        }
        long[][] none = {{0, 0, 0}, {0, 0, 1}, {0, 1, 0}, {0, 2, 0}, {0, 4, 2}, {0, Long.MAX_VALUE, Long.MAX_VALUE}, {0, 2, 1, 0, 3, 1}};
        for (long[] numbers : none) {
            Check.row(x, 0, 3, numbers);
            s.due("laws(0) of " + Arrays.toString(numbers), 0, x.laws(0));
        }
        x.row(0, 3, 0);
        s.due("laws(0) of a row of none", 15, x.laws(0));
        s.term("V", "leak of one POLE was told otherwise (1 .. 30), all else (acts, too) as now.");
        x = Check.told(Wires.pole(2, 0, 7, ""));
        for (int leak = 1; leak <= 31; leak++) {
            Check.row(x, 0, 1, 1, 1 + leak, 1);
            s.due("low(0, 0) of " + (1 + leak) + " ohms", leak == 31 ? -1 : leak, x.low(0, 0));
            s.due("high(0, 0) of " + (1 + leak) + " ohms", leak == 31 ? -1 : leak, x.high(0, 0));
        }
        Check.row(x, 0, 1, 1, 1, 1);
        s.due("fits(0, 0) of 1 ohm: no leak is 0", 0, x.fits(0, 0));
        Check.row(x, 0, 1, 1, 31, 1);
        x.cups(0, 1);
        s.due("fits(0, 0), CUPPED by an act", 30, x.fits(0, 0));
        x.snaps(0, 1);
        s.due("fits(0, 0), broken by an act", 0, x.fits(0, 0));
    }

    private void worths() {
        s.term("VI", "A set of POLES is CUPPED on DAY 0 (besides, ahead of acts): it is WORTH sum() then.");
        LeakyLine x = Check.told(Wires.PLAIN);
        s.due("worth(0) is sum()", x.sum(), x.worth(0));
        s.due("worth(2)", 10, x.worth(2));
        x.cups(1, 3);
        s.due("worth(0) with an act", 7, x.worth(0));
        s.due("worth(2), the act besides", 10, x.worth(2));
        x.snaps(1, 1);
        s.due("worth(3), a SPAN broken by an act", 6, x.worth(3));
        s.term("VI", "POLES come in an order, each has what the set is WORTH more by it; each order is as likely: the mean"
                + " (what it is with none is nobody's).");
        x = Check.told(Wires.PLAIN);
        fraction("share(0), the 5 with none aside", 5, 2, x.share(0, 0), x.share(0, 1));
        fraction("share(1)", 5, 2, x.share(1, 0), x.share(1, 1));
        x = Check.told("wire days 3 law 0 odds 0 volts 12; span 1 leak 5 needs 11;");
        fraction("share(0) of one alone", 4, 1, x.share(0, 0), x.share(0, 1));
        // only all three help, by 2 DAYS
        x = Check.told("wire days 1 law 0 odds 0 volts 10; span 1 leak 3; span 1 leak 3; span 1 leak 3 needs 8;");
        for (int pole = 0; pole < 3; pole++) {
            fraction("share(" + pole + ")", 2, 3, x.share(pole, 0), x.share(pole, 1));
        }
    }

    private void games() {
        s.term("VII", "Each of two POLES is CUPPED on DAY 0 so, or not.");
        LeakyLine x = Check.told(Wires.PLAIN);
        s.due("gets(1, 0, 0, 0)", 0, x.gets(1, 0, 0, 0));
        s.due("gets(1, 0, 0, 1)", 5, x.gets(1, 0, 0, 1));
        x.cups(0, 4);
        s.due("gets(1, 0, 0, 0), an act besides", 1, x.gets(1, 0, 0, 0));
        s.term("VII", "It GETS 1 for each DAY on which a STATION at it HEARS (0 without), less 2, if it is CUPPED.");
        x = Check.told(Wires.PLAIN);
        s.due("gets(0, 1, 0, 0)", 5, x.gets(0, 1, 0, 0));
        s.due("gets(0, 1, 1, 0)", 3, x.gets(0, 1, 1, 0));
        s.due("gets(0, 1, 0, 1): the other pays for itself", 5, x.gets(0, 1, 0, 1));
        x = Check.told(Wires.NO_STATIONS);
        s.due("gets(0, 1, 0, 0) without a STATION", 0, x.gets(0, 1, 0, 0));
        s.due("gets(0, 1, 1, 1) without a STATION", -2, x.gets(0, 1, 1, 1));
        s.term("VII", "REST: neither GETS more by the other choice alone.");
        s.due("rests(0, 1): CUPPED for nothing", 1, x.rests(0, 1));
        // 2 DAYS won for 2: not more, either is at REST
        x = Check.told("wire days 1 law 0 odds 0 volts 10; span 1 leak 1 needs 8; span 12 leak 1;");
        s.due("rests(0, 1), as much is not more", 3, x.rests(0, 1));
        s.due("rests(1, 0), as much is not more", 5, x.rests(1, 0));
        // each HEARS only if both are CUPPED: alone neither GETS more
        x = Check.told("wire days 4 law 0 odds 0 volts 10; span 1 leak 2 needs 9; span 1 leak 2 needs 8;");
        s.due("rests(0, 1), neither or both", 9, x.rests(0, 1));
    }

    private void chance(String why, LeakyLine x, int day, long above, long below) {
        fraction("chance(0, " + day + ")" + why, above, below, x.chance(0, day, 0), x.chance(0, day, 1));
    }

    private void chances() {
        s.term("VIII", "CHANCE: each DAY is WET with odds in ten, by itself (those told are not).");
        chance(", told WET, odds 0", Check.told(Wires.wet(1, 0)), 1, 1, 1);
        chance(", told dry, odds 10", Check.told(Wires.wet(1, 10)), 0, 0, 1);
        chance(", told WET, odds 3", Check.told(Wires.wet(1, 3)), 1, 7, 10);
        chance(", told dry, odds 3", Check.told(Wires.wet(1, 3)), 4, 7, 10);
        chance(", two DAYS", Check.told(Wires.wet(2, 3)), 4, 49, 100);
        chance(", DAY 0 has none ahead", Check.told(Wires.wet(2, 3)), 0, 7, 10);
        chance(", all DAYS up to it", Check.told(Wires.wet(3, 1)), 3, 6561, 10000);
        s.term("VIII", "FRACTIONS are told in lowest terms (0 / 1).");
        chance(", 5 / 10", Check.told(Wires.wet(1, 5)), 0, 1, 2);
        chance(", 8 / 10", Check.told(Wires.wet(1, 2)), 0, 4, 5);
        chance(", 100 / 100", Check.told(Wires.wet(0, 5)), 1, 1, 1);
        chance(", 0 / 100", Check.told(Wires.wet(2, 10)), 1, 0, 1);
        LeakyLine x = Check.told(Wires.PLAIN);
        x.snaps(0, 0);
        fraction("amps(0)", 0, 1, x.amps(0, 0), x.amps(0, 1));
        fraction("volts(1, 0)", 0, 1, x.volts(1, 0, 0), x.volts(1, 0, 1));
        fraction("falls(1, 0)", 0, 1, x.falls(1, 0, 0), x.falls(1, 0, 1));
        fraction("earth(1, 0)", 0, 1, x.earth(1, 0, 0), x.earth(1, 0, 1));
        fraction("share(1)", 0, 1, x.share(1, 0), x.share(1, 1));
        fraction("mean(0)", 0, 1, x.mean(0, 0), x.mean(0, 1));
    }

    private static String drawing(int odds) {
        return "wire days 13 law 1 odds " + odds + " volts 12; span 1 leak 5 needs 10; wet 0; wet 13;";
    }

    private void draws() {
        s.term("VIII", "DRAWS: x becomes (1103515245 x + 12345) modulo 2,147,483,648 (at first it is the seed); a draw: x / 65536,"
                + " cut, modulo 10.");
        int[][] draws = {{0, 0, 8, 8, 7, 8, 7, 5, 1, 2, 0, 1, 2, 9, 8}, {1, 8, 8, 3, 5, 1, 7, 0, 9, 2, 6, 9, 7, 4, 0},
            {100, 2, 2, 1, 8, 4, 3, 9, 2, 2, 1, 2, 5, 4, 6}, {1999999999, 3, 3, 6, 9, 1, 1, 9, 0, 5, 8, 9, 4, 0, 5},
            {2000000000, 4, 3, 1, 7, 6, 2, 7, 7, 5, 4, 7, 0, 4, 8}};
        for (int[] row : draws) {
            for (int odds = 0; odds <= 10; odds++) {
                int wet = 0;
                for (int day = 0; day <= 13; day++) {
                    wet |= row[day + 1] < odds ? 1 << day : 0;
                }
                s.due("drawn(" + row[0] + ", 0) by odds " + odds, wet, Check.told(drawing(odds)).drawn(row[0], 0));
            }
        }
        s.term("VIII", "Days drawn: DAY by DAY, the last, too, a draw: below odds it is WET.");
        s.due("drawn(1, 0): the last draw is 0, the seventh, too", 1 << 13 | 1 << 6, Check.told(drawing(1)).drawn(1, 0));
        s.due("drawn(1, 0): 0 is not below 0", 0, Check.told(drawing(0)).drawn(1, 0));
        s.due("drawn(0, 0): 9 is below 10", (1 << 14) - 1, Check.told(drawing(10)).drawn(0, 0));
        s.due("drawn(0, 0): 9 is not below 9", (1 << 14) - 1 - (1 << 12), Check.told(drawing(9)).drawn(0, 0));
        s.due("drawn(1, 1): the last is WET", 0, Check.told(drawing(1)).drawn(1, 1));
        s.due("drawn(0, 1): the last, told WET, is not", 1, Check.told(drawing(1)).drawn(0, 1));
    }
}
