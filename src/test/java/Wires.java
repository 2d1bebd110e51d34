/** WIRES that the tests of edges share, with what is worked out of them by hand. */
final class Wires {
    /** 1 + (2 || (1 + 1)) ohms: it READS 2, 5 VOLTS at POLE 0, 5 / 2 at POLE 1, on every DAY 0 .. 4. */
    static final String PLAIN =
            "wire days 4 law 0 odds 5 volts 10; span 1 leak 2 needs 5; span 1 leak 1 needs 3;";
    static final String NO_SPANS = "wire days 3 law 1 odds 5 volts 9; wet 2;";
    static final String NO_STATIONS = "wire days 2 law 0 odds 5 volts 9; span 1 leak 2; span 2 leak 2;";
    /** 10 || 5 / 3 .. : 200 / 21 VOLTS at POLE 0, 80 / 21 at POLE 1, 40 / 21 at POLE 2, where no STATION is. */
    static final String TWO_OF_THREE =
            "wire days 1 law 0 odds 0 volts 20; span 1 leak 2 needs 5; span 1 leak 1 needs 6; span 1 leak 1;";
    /** Three STATIONS that need nothing, over all DAYS that can be. */
    static final String LONG = "wire days 13 law 0 odds 5 volts 60; span 1 leak 30 needs 0; span 1 leak 30 needs 0;"
            + "span 1 leak 30 needs 0; span 1 leak 30 needs 0; span 1 leak 30 needs 0;";
    static final String HEAD = "wire days 3 law 0 odds 5 volts 9;";

    private Wires() {
    }

    /** One POLE, LEAK 5, that HEARS (10 of 12 VOLTS) while nothing of its LEAK is lost; DAYS 1 and 2 are WET. */
    static String wet(int law, int odds) {
        return "wire days 5 law " + law + " odds " + odds + " volts 12; span 1 leak 5 needs 10; wet 1; wet 2; wet 9;";
    }

    /** One POLE of which LEAK alone matters. */
    static String pole(int days, int law, int leak, String wets) {
        return "wire days " + days + " law " + law + " odds 5 volts 12; span 1 leak " + leak + ";" + wets;
    }
}
