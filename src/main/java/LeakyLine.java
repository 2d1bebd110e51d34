import java.util.Arrays;

/**
 * A telegraph line told as a text: what each pole leaks, what the line reads,
 * which stations hear, and what would be if it were otherwise.
 */
public final class LeakyLine {
    public static final int NONE = -1;

    private static final int NOT_THERE = -2;
    private static final int BELOW_NOTHING = -3;
    private static final int FAULTY = -4;
    private static final int REFUSED = -5;
    private static final int EMPTY = -6;
    private static final int BEYOND = -7;
    private static final int OTHER_WIDTH = -8;
    private static final int NO_GAME = -1000;
    private static final int NO_SHARE = -1000000;

    private static final int MOST_BYTES = 500;
    private static final int MOST_SPANS = 5;
    private static final int MOST_WETS = 8;
    private static final int MOST_DAYS = 14;
    private static final int MOST_ACTS = 30;
    private static final int MOST_LEAK = 30;
    private static final int MOST_NEEDS = 60;
    private static final int MOST_BATTERY = 200;
    private static final int MOST_CHANCE_DAY = 7;
    private static final int MOST_SEED = 2000000000;
    private static final int MOST_LUCK = 20;
    private static final int MOST_NUMBERS = 60;
    private static final int MOST_SLOTS = 4;
    private static final int MOST_IMAGES = 3;
    private static final int LAWS = 4;
    private static final int PRICE_OF_CUPS = 2;
    /** Euclid's steps on two longs stay below this. */
    private static final int MOST_STEPS = 100;

    private static final int CUP = 0;
    private static final int SNAP = 1;

    private final Tape tape = new Tape();
    private final Tokens tokens = new Tokens();
    private final Teller teller = new Teller();
    /** The WIRE with its acts; drafted is where a TAPE is read to, so that a FAULT leaves the WIRE as it was. */
    private final Line line = new Line();
    private final Line drafted = new Line();
    private final Line[] images = new Line[MOST_IMAGES];
    private final Slots slots = new Slots();
    private final Supposed supposed = new Supposed();
    private final Ladder ladder = new Ladder();
    private final Fraction fraction = new Fraction();
    /** Work rows, made once, for a run's calls share one room. */
    private final int[] heardOn = new int[MOST_DAYS];
    private final int[] worths = new int[1 << MOST_SPANS];
    private final long[] readsAbove = new long[MOST_LEAK + 1];
    private final long[] readsBelow = new long[MOST_LEAK + 1];
    private int faultKind = 0;
    private int faultPlace = NONE;

    public LeakyLine() {
    }

    // ---- the TAPE and the WIRE ----

    public int feed(int a, int b, int c, int d, int e) {
        if (tape.length + 20 > MOST_BYTES) {
            return NONE;
        }
        tape.append(a);
        tape.append(b);
        tape.append(c);
        tape.append(d);
        tape.append(e);
        return tape.length;
    }

    public int end(int n) {
        if (n < 0 || n > tape.length) {
            return NONE;
        }
        tape.length = n;
        return n;
    }

    public int wire() {
        tokens.scan(tape);
        teller.read(tokens, drafted);
        faultKind = teller.fault;
        faultPlace = faultKind == 0 ? NONE : teller.place;
        if (faultKind != 0) {
            return FAULTY;
        }
        tape.length = 0;
        line.take(drafted);
        return line.lines;
    }

    public int fault(int what) {
        if (what == 0) {
            return faultKind;
        }
        return what == 1 ? faultPlace : NONE;
    }

    public int span(int span, int what) {
        if (!isPole(span)) {
            return NOT_THERE;
        }
        switch (what) {
            case 0:
                return line.ohms[span];
            case 1:
                return line.leaks[span];
            case 2:
                return line.needs[span];
            default:
                return NOT_THERE;
        }
    }

    public int stations() {
        return isTold() ? line.stationBits() : NOT_THERE;
    }

    public int wets() {
        return isTold() ? line.wet : NOT_THERE;
    }

    // ---- a DAY: leaks, volts, currents ----

    public int leak(int pole, int day) {
        if (!isPole(pole) || !isDay(day)) {
            return NOT_THERE;
        }
        supposed.asTold(line);
        return supposed.leakOn(line, pole, day);
    }

    public int joined(int day) {
        if (!isDay(day)) {
            return NOT_THERE;
        }
        supposed.asTold(line);
        return supposed.leadingOn(line, day);
    }

    public long ohms(int day, int what) {
        if (!isDay(day) || !isPart(what)) {
            return NOT_THERE;
        }
        settleAsTold(day);
        ladder.readsInto(fraction);
        return fraction.part(what);
    }

    public long amps(int day, int what) {
        if (!isDay(day) || !isPart(what)) {
            return NOT_THERE;
        }
        settleAsTold(day);
        return partOf(line.volts * ladder.firstAmps(), ladder.source, what);
    }

    public long volts(int pole, int day, int what) {
        if (!isPole(pole) || !isDay(day) || !isPart(what)) {
            return NOT_THERE;
        }
        settleAsTold(day);
        return partOf(line.volts * ladder.volts[pole], ladder.source, what);
    }

    public int whole(int pole, int day) {
        if (!isPole(pole) || !isDay(day)) {
            return NOT_THERE;
        }
        settleAsTold(day);
        return wholeVolts(pole);
    }

    public long falls(int span, int day, int what) {
        if (!isPole(span) || !isDay(day) || !isPart(what)) {
            return NOT_THERE;
        }
        settleAsTold(day);
        return partOf(line.volts * ladder.fallOver(span), ladder.source, what);
    }

    public long earth(int pole, int day, int what) {
        if (!isPole(pole) || !isDay(day) || !isPart(what)) {
            return NOT_THERE;
        }
        settleAsTold(day);
        return partOf(line.volts * ladder.volts[pole], ladder.source * ladder.leaks[pole], what);
    }

    public int sore(int day) {
        if (!isDay(day)) {
            return NOT_THERE;
        }
        settleAsTold(day);
        int found = NONE;
        for (int pole = 0; pole < ladder.lead; pole++) {
            if (found == NONE || ladder.leaksMore(pole, found)) {
                found = pole;
            }
        }
        return found;
    }

    // ---- who hears on a DAY ----

    public int hears(int day) {
        if (!isDay(day)) {
            return NOT_THERE;
        }
        supposed.asTold(line);
        return heardBits(day);
    }

    public int silent(int day) {
        if (!isDay(day)) {
            return NOT_THERE;
        }
        supposed.asTold(line);
        return line.stationBits() & ~heardBits(day);
    }

    public int faint(int day) {
        if (!isDay(day)) {
            return NOT_THERE;
        }
        settleAsTold(day);
        int found = NONE;
        for (int pole = 0; pole < line.spans; pole++) {
            if (isStation(pole) && (found == NONE || ladder.volts[pole] <= ladder.volts[found])) {
                found = pole;
            }
        }
        return found;
    }

    // ---- who hears over all DAYS ----

    public int when(int pole) {
        if (!isStation(pole)) {
            return NOT_THERE;
        }
        int deafDays = allDays() & ~hearingDays(pole);
        return deafDays == 0 ? NONE : Integer.numberOfTrailingZeros(deafDays);
    }

    public int deaf(int pole) {
        if (!isStation(pole)) {
            return NOT_THERE;
        }
        return Integer.bitCount(allDays() & ~hearingDays(pole));
    }

    public int longest(int pole) {
        if (!isStation(pole)) {
            return NOT_THERE;
        }
        return longestRun(hearingDays(pole));
    }

    public int flips(int pole) {
        if (!isStation(pole)) {
            return NOT_THERE;
        }
        int days = hearingDays(pole);
        return Integer.bitCount((days ^ (days << 1)) & allDays() & ~1);
    }

    public int clear() {
        return isTold() ? clearDays() : NOT_THERE;
    }

    public int last() {
        if (!isTold()) {
            return NOT_THERE;
        }
        return highestBit(clearDays());
    }

    public int dim() {
        if (!isTold()) {
            return NOT_THERE;
        }
        listenAsTold();
        int found = 0;
        for (int day = 1; day <= line.days; day++) {
            if (Integer.bitCount(heardOn[day]) < Integer.bitCount(heardOn[found])) {
                found = day;
            }
        }
        return found;
    }

    public int sum() {
        if (!isTold()) {
            return NOT_THERE;
        }
        supposed.asTold(line);
        return heardInAll();
    }

    // ---- leaks and wet DAYS ----

    public int worst(int day) {
        if (!isDay(day)) {
            return NOT_THERE;
        }
        settleAsTold(day);
        int found = NONE;
        for (int pole = 0; pole < line.spans; pole++) {
            if (found == NONE || ladder.leaks[pole] < ladder.leaks[found]) {
                found = pole;
            }
        }
        return found;
    }

    public int damp(int pole, int day) {
        if (!isPole(pole) || !isDay(day)) {
            return NOT_THERE;
        }
        supposed.asTold(line);
        int asItIs = supposed.leakOn(line, pole, day);
        supposed.wet = 0;
        return supposed.leakOn(line, pole, day) - asItIs;
    }

    public int spell() {
        return isTold() ? longestRun(line.wet) : NOT_THERE;
    }

    public int margin(int pole, int day) {
        if (!isStation(pole) || !isDay(day)) {
            return NOT_THERE;
        }
        settleAsTold(day);
        return Math.max(0, wholeVolts(pole) - line.needs[pole]);
    }

    public int bright() {
        if (!isTold()) {
            return NOT_THERE;
        }
        listenAsTold();
        int found = 0;
        for (int day = 1; day <= line.days; day++) {
            if (Integer.bitCount(heardOn[day]) > Integer.bitCount(heardOn[found])) {
                found = day;
            }
        }
        return found;
    }

    public int rises(int pole) {
        if (!isPole(pole)) {
            return NOT_THERE;
        }
        supposed.asTold(line);
        int found = 0;
        for (int day = 1; day <= line.days; day++) {
            if (supposed.leakOn(line, pole, day) > supposed.leakOn(line, pole, day - 1)) {
                found++;
            }
        }
        return found;
    }

    public int dry() {
        return isTold() ? longestRun(allDays() & ~line.wet) : NOT_THERE;
    }

    public int ends(int day) {
        if (!isDay(day)) {
            return NOT_THERE;
        }
        supposed.asTold(line);
        int lead = supposed.leadingOn(line, day);
        return lead == 0 ? NONE : lead - 1;
    }

    public int reach(int day) {
        if (!isDay(day)) {
            return NOT_THERE;
        }
        supposed.asTold(line);
        return highestBit(heardBits(day));
    }

    public int both(int pole, int other) {
        if (!isStation(pole) || !isStation(other)) {
            return NOT_THERE;
        }
        return Integer.bitCount(hearingDays(pole) & hearingDays(other));
    }

    public int apart(int pole, int other) {
        if (!isStation(pole) || !isStation(other)) {
            return NOT_THERE;
        }
        return Integer.bitCount(hearingDays(pole) ^ hearingDays(other));
    }

    public int half(int day) {
        if (!isDay(day)) {
            return NOT_THERE;
        }
        settleAsTold(day);
        for (int pole = 0; pole < line.spans; pole++) {
            if (2 * ladder.volts[pole] <= ladder.source) {
                return pole;
            }
        }
        return NONE;
    }

    public int grounds(int day) {
        if (!isDay(day)) {
            return NOT_THERE;
        }
        settleAsTold(day);
        int together = 0;
        for (int pole = 0; pole < line.spans; pole++) {
            together += ladder.leaks[pole];
        }
        return together;
    }

    public int steep(int day) {
        if (!isDay(day)) {
            return NOT_THERE;
        }
        settleAsTold(day);
        int found = NONE;
        for (int span = 0; span < ladder.lead; span++) {
            if (found == NONE || ladder.fallOver(span) > ladder.fallOver(found)) {
                found = span;
            }
        }
        return found;
    }

    public int mute() {
        if (!isTold()) {
            return NOT_THERE;
        }
        listenAsTold();
        int days = 0;
        for (int day = 0; day <= line.days; day++) {
            if (heardOn[day] == 0) {
                days |= 1 << day;
            }
        }
        return days;
    }

    public int changes() {
        if (!isTold()) {
            return NOT_THERE;
        }
        listenAsTold();
        int found = 0;
        for (int day = 1; day <= line.days; day++) {
            if (heardOn[day] != heardOn[day - 1]) {
                found++;
            }
        }
        return found;
    }

    public int all() {
        return isTold() ? worthOf(allPoles()) : NOT_THERE;
    }

    public int without(int span) {
        if (!isPole(span)) {
            return NOT_THERE;
        }
        supposed.asTold(line);
        supposed.broken = span;
        return heardInAll();
    }

    public int cupped(int pole, int day) {
        if (!isPole(pole) || !isDay(day)) {
            return NOT_THERE;
        }
        return line.latestCup(pole, day);
    }

    public int snapped(int span) {
        return isPole(span) ? line.firstSnap(span) : NOT_THERE;
    }

    public int lack(int day) {
        if (!isDay(day)) {
            return NOT_THERE;
        }
        supposed.asTold(line);
        int deafBits = line.stationBits() & ~heardBits(day);
        int together = 0;
        for (int pole = 0; pole < line.spans; pole++) {
            if (hasBit(deafBits, pole)) {
                together += line.needs[pole] - wholeVolts(pole);
            }
        }
        return together;
    }

    public int loud(int day) {
        if (!isDay(day)) {
            return NOT_THERE;
        }
        settleAsTold(day);
        int found = NONE;
        for (int pole = 0; pole < line.spans; pole++) {
            if (isStation(pole) && (found == NONE || ladder.volts[pole] > ladder.volts[found])) {
                found = pole;
            }
        }
        return found;
    }

    public int weakest() {
        return isTold() ? firstByDays(-1) : NOT_THERE;
    }

    public int strong() {
        return isTold() ? firstByDays(1) : NOT_THERE;
    }

    // ---- what would help ----

    public int battery(int day) {
        if (!isDay(day)) {
            return NOT_THERE;
        }
        settleAsTold(day);
        return leastBattery();
    }

    public int batteries() {
        if (!isTold()) {
            return NOT_THERE;
        }
        supposed.asTold(line);
        int least = 1;
        for (int day = 0; day <= line.days; day++) {
            ladder.settle(line, supposed, day);
            int ofDay = leastBattery();
            if (ofDay == NONE) {
                return NONE;
            }
            least = Math.max(least, ofDay);
        }
        return least;
    }

    public int cure(int day) {
        if (!isDay(day)) {
            return NOT_THERE;
        }
        int set = leastCure(day);
        return set == NONE ? NONE : Integer.bitCount(set);
    }

    public int cures(int day) {
        return isDay(day) ? leastCure(day) : NOT_THERE;
    }

    public int best() {
        if (!isTold()) {
            return NOT_THERE;
        }
        int most = worthOf(0);
        int found = NONE;
        for (int pole = 0; pole < line.spans; pole++) {
            int then = worthOf(1 << pole);
            if (then > most) {
                most = then;
                found = pole;
            }
        }
        return found;
    }

    public int thick() {
        if (!isTold()) {
            return NOT_THERE;
        }
        int most = worthOf(0);
        int found = NONE;
        for (int span = 0; span < line.spans; span++) {
            supposed.asTold(line);
            supposed.ohms[span] = 1;
            int then = heardInAll();
            if (then > most) {
                most = then;
                found = span;
            }
        }
        return found;
    }

    // ---- what was read ----

    public int fits(int slot, int pole) {
        int refusal = refusalOfSeen(slot, pole);
        return refusal != 0 ? refusal : Integer.bitCount(fittingLeaks(slot, pole));
    }

    public int low(int slot, int pole) {
        int refusal = refusalOfSeen(slot, pole);
        if (refusal != 0) {
            return refusal;
        }
        int fitting = fittingLeaks(slot, pole);
        return fitting == 0 ? NONE : Integer.numberOfTrailingZeros(fitting);
    }

    public int high(int slot, int pole) {
        int refusal = refusalOfSeen(slot, pole);
        return refusal != 0 ? refusal : highestBit(fittingLeaks(slot, pole));
    }

    public int ask(int slot, int pole) {
        int refusal = refusalOfSeen(slot, pole);
        return refusal != 0 ? refusal : dayToAsk(fittingLeaks(slot, pole), pole);
    }

    public int leaves(int slot, int pole) {
        int refusal = refusalOfSeen(slot, pole);
        if (refusal != 0) {
            return refusal;
        }
        int fitting = fittingLeaks(slot, pole);
        int day = dayToAsk(fitting, pole);
        return day == NONE ? Integer.bitCount(fitting) : leftAtWorst(fitting, pole, day);
    }

    public int spots(int slot) {
        int refusal = refusalOfRow(slot);
        if (refusal != 0) {
            return refusal;
        }
        int poles = 0;
        for (int pole = 0; pole < line.spans; pole++) {
            int others = fittingLeaks(slot, pole) & ~(1 << line.leaks[pole]);
            if (others != 0) {
                poles |= 1 << pole;
            }
        }
        return poles;
    }

    public int breaks(int slot) {
        int refusal = refusalOfRow(slot);
        if (refusal != 0) {
            return refusal;
        }
        supposed.asTold(line);
        int spans = 0;
        for (int span = 0; span < line.spans; span++) {
            supposed.broken = span;
            if (isAsSeen(slot)) {
                spans |= 1 << span;
            }
        }
        return spans;
    }

    public int laws(int slot) {
        int refusal = refusalOfRow(slot);
        if (refusal != 0) {
            return refusal;
        }
        supposed.asTold(line);
        int found = 0;
        for (int law = 0; law < LAWS; law++) {
            supposed.law = law;
            if (isAsSeen(slot)) {
                found |= 1 << law;
            }
        }
        return found;
    }

    public int by(int law) {
        if (!isTold() || law < 0 || law >= LAWS) {
            return NOT_THERE;
        }
        return heardByLaw(law);
    }

    public int law() {
        if (!isTold()) {
            return NOT_THERE;
        }
        int found = 0;
        int most = heardByLaw(0);
        for (int law = 1; law < LAWS; law++) {
            int then = heardByLaw(law);
            if (then > most) {
                most = then;
                found = law;
            }
        }
        return found;
    }

    // ---- shares and the game of two ----

    public int worth(int set) {
        if (!isTold() || set < 0 || set > allPoles()) {
            return NOT_THERE;
        }
        return worthOf(set);
    }

    public int share(int pole, int what) {
        if (!isPole(pole) || !isPart(what)) {
            return NO_SHARE;
        }
        for (int set = 0; set <= allPoles(); set++) {
            worths[set] = worthOf(set);
        }
        long together = 0;
        for (int set = 0; set <= allPoles(); set++) {
            if (!hasBit(set, pole)) {
                int ahead = Integer.bitCount(set);
                long orders = factorial(ahead) * factorial(line.spans - 1 - ahead);
                together += orders * (worths[set | (1 << pole)] - worths[set]);
            }
        }
        return (int) partOf(together, factorial(line.spans), what);
    }

    public int rests(int pole, int other) {
        if (!isPole(pole) || !isPole(other) || pole == other) {
            return NOT_THERE;
        }
        int found = 0;
        for (int pair = 0; pair < 4; pair++) {
            int set = pairSet(pole, other, pair & 1, pair >> 1);
            boolean poleStays = gainOf(pole, set) >= gainOf(pole, set ^ (1 << pole));
            boolean otherStays = gainOf(other, set) >= gainOf(other, set ^ (1 << other));
            if (poleStays && otherStays) {
                found |= 1 << pair;
            }
        }
        return found;
    }

    public int gets(int pole, int other, int cupped, int otherCupped) {
        if (!isPole(pole) || !isPole(other) || pole == other) {
            return NO_GAME;
        }
        if (!isPart(cupped) || !isPart(otherCupped)) {
            return NO_GAME;
        }
        return gainOf(pole, pairSet(pole, other, cupped, otherCupped));
    }

    // ---- chance ----

    public int chance(int pole, int day, int what) {
        if (!isStation(pole) || !isChanceDay(day) || !isPart(what)) {
            return NOT_THERE;
        }
        return (int) partOf(heardByChance(day, 1 << pole), power(10, day + 1), what);
    }

    public long mean(int day, int what) {
        if (!isChanceDay(day) || !isPart(what)) {
            return NOT_THERE;
        }
        return partOf(heardByChance(day, line.stationBits()), power(10, day + 1), what);
    }

    // ---- acts ----

    public int cups(int pole, int day) {
        if (!isPole(pole) || !isDay(day)) {
            return NOT_THERE;
        }
        if (line.acts >= MOST_ACTS) {
            return REFUSED;
        }
        line.act(CUP, pole, day);
        supposed.asTold(line);
        return supposed.leakOn(line, pole, line.days);
    }

    public int snaps(int span, int day) {
        if (!isPole(span) || !isDay(day)) {
            return NOT_THERE;
        }
        if (line.acts >= MOST_ACTS) {
            return REFUSED;
        }
        line.act(SNAP, span, day);
        supposed.asTold(line);
        return supposed.leadingOn(line, line.days);
    }

    public int undo() {
        if (!isTold()) {
            return NOT_THERE;
        }
        if (line.acts == 0) {
            return REFUSED;
        }
        line.keepActs(line.acts - 1);
        return line.acts;
    }

    public int anew() {
        if (!isTold()) {
            return NOT_THERE;
        }
        int were = line.acts;
        line.keepActs(0);
        return were;
    }

    // ---- days drawn ----

    public int drawn(int seed, int what) {
        if (!isTold() || !isSeed(seed) || !isPart(what)) {
            return NOT_THERE;
        }
        return what == 0 ? wetByDraws(seed) : heardByDraws(seed);
    }

    public int luck(int seed, int n, int pole) {
        if (!isStation(pole) || !isSeed(seed) || n < 1 || n > MOST_LUCK) {
            return NOT_THERE;
        }
        int found = 0;
        for (int i = 0; i < n; i++) {
            if (hasBit(heardByDraws(seed + i), pole)) {
                found++;
            }
        }
        return found;
    }

    public int rate(int pole, int n) {
        if (!isStation(pole) || n < 0 || n > MOST_NEEDS) {
            return NOT_THERE;
        }
        if (line.acts > 0) {
            return REFUSED;
        }
        int needed = line.needs[pole];
        line.needs[pole] = n;
        return needed;
    }

    public int count(int what) {
        switch (what) {
            case 0:
                return line.days;
            case 1:
                return line.law;
            case 2:
                return line.odds;
            case 3:
                return line.volts;
            case 4:
                return line.spans;
            case 5:
                return line.wetLines;
            case 6:
                return line.acts;
            case 7:
                return line.lines;
            case 8:
                return tape.length;
            case 9:
                return slots.used();
            default:
                return NONE;
        }
    }

    // ---- images ----

    public int image(int k) {
        if (k < 0 || k >= images.length) {
            return NOT_THERE;
        }
        Line kept = images[k];
        if (kept == null) {
            kept = new Line();
            images[k] = kept;
        }
        kept.take(line);
        return 0;
    }

    public int back(int k) {
        if (k < 0 || k >= images.length) {
            return NOT_THERE;
        }
        Line kept = images[k];
        if (kept == null) {
            return EMPTY;
        }
        line.take(kept);
        return 0;
    }

    // ---- SLOTS ----

    public int row(int slot, int width, int n) {
        if (!isSlot(slot) || width < 0 || width > 3 || n > MOST_NUMBERS) {
            return NOT_THERE;
        }
        if (n < 0) {
            return BELOW_NOTHING;
        }
        slots.lay(slot, width, n);
        return 0;
    }

    public int write(int slot, int i, long v) {
        if (!isSlot(slot)) {
            return NOT_THERE;
        }
        if (!slots.has(slot)) {
            return EMPTY;
        }
        if (i < 0 || i >= slots.sizes[slot]) {
            return BEYOND;
        }
        slots.put(slot, i, v);
        return 0;
    }

    public int paste(int slot, int i, int to, int k, int n) {
        if (!isSlot(slot) || !isSlot(to)) {
            return NOT_THERE;
        }
        if (!slots.has(slot) || !slots.has(to)) {
            return EMPTY;
        }
        if (slots.widths[slot] != slots.widths[to]) {
            return OTHER_WIDTH;
        }
        if (!slots.holds(slot, i, n) || !slots.holds(to, k, n)) {
            return BEYOND;
        }
        slots.copy(slot, i, to, k, n);
        return 0;
    }

    // ---- what there is ----

    private boolean isTold() {
        return line.lines > 0;
    }

    private boolean isDay(int day) {
        return isTold() && day >= 0 && day <= line.days;
    }

    private boolean isChanceDay(int day) {
        return isDay(day) && day <= MOST_CHANCE_DAY;
    }

    private boolean isPole(int pole) {
        return pole >= 0 && pole < line.spans;
    }

    private boolean isStation(int pole) {
        return isPole(pole) && line.needs[pole] != NONE;
    }

    private static boolean isPart(int what) {
        return what == 0 || what == 1;
    }

    private static boolean isSeed(int seed) {
        return seed >= 0 && seed <= MOST_SEED;
    }

    private static boolean isSlot(int slot) {
        return slot >= 0 && slot < MOST_SLOTS;
    }

    private int allDays() {
        return (1 << (line.days + 1)) - 1;
    }

    private int allPoles() {
        return (1 << line.spans) - 1;
    }

    // ---- numbers ----

    private static boolean hasBit(int bits, int i) {
        return ((bits >> i) & 1) == 1;
    }

    private static int highestBit(int bits) {
        return bits == 0 ? NONE : 31 - Integer.numberOfLeadingZeros(bits);
    }

    private static int longestRun(int bits) {
        int most = 0;
        int run = 0;
        for (int i = 0; i < MOST_DAYS; i++) {
            run = hasBit(bits, i) ? run + 1 : 0;
            most = Math.max(most, run);
        }
        return most;
    }

    private static long factorial(int n) {
        long all = 1;
        for (int i = 2; i <= n; i++) {
            all *= i;
        }
        return all;
    }

    private static long power(int base, int exponent) {
        long all = 1;
        for (int i = 0; i < exponent; i++) {
            all *= base;
        }
        return all;
    }

    private long partOf(long above, long below, int what) {
        fraction.set(above, below);
        return fraction.part(what);
    }

    // ---- hearing ----

    private void settleAsTold(int day) {
        supposed.asTold(line);
        ladder.settle(line, supposed, day);
    }

    private int wholeVolts(int pole) {
        long all = line.volts * ladder.volts[pole];
        return ladder.source > 0 ? (int) (all / ladder.source) : 0;
    }

    private int heardBits(int day) {
        ladder.settle(line, supposed, day);
        int heard = 0;
        for (int pole = 0; pole < line.spans; pole++) {
            if (isStation(pole) && ladder.isEnough(pole, line.volts, line.needs[pole])) {
                heard |= 1 << pole;
            }
        }
        return heard;
    }

    private void listenAsTold() {
        supposed.asTold(line);
        for (int day = 0; day <= line.days; day++) {
            heardOn[day] = heardBits(day);
        }
    }

    private int heardInAll() {
        int together = 0;
        for (int day = 0; day <= line.days; day++) {
            together += Integer.bitCount(heardBits(day));
        }
        return together;
    }

    private int daysHeard(int pole) {
        int days = 0;
        for (int day = 0; day <= line.days; day++) {
            if (hasBit(heardBits(day), pole)) {
                days |= 1 << day;
            }
        }
        return days;
    }

    private int hearingDays(int pole) {
        supposed.asTold(line);
        return daysHeard(pole);
    }

    private int clearDays() {
        listenAsTold();
        int days = 0;
        for (int day = 0; day <= line.days; day++) {
            if (heardOn[day] == line.stationBits()) {
                days |= 1 << day;
            }
        }
        return days;
    }

    /** The first STATION of most DAYS (sign 1) or of fewest (sign -1). */
    private int firstByDays(int sign) {
        listenAsTold();
        int found = NONE;
        int most = 0;
        for (int pole = 0; pole < line.spans; pole++) {
            int days = sign * heardDaysOf(pole);
            if (isStation(pole) && (found == NONE || days > most)) {
                found = pole;
                most = days;
            }
        }
        return found;
    }

    private int heardDaysOf(int pole) {
        int days = 0;
        for (int day = 0; day <= line.days; day++) {
            if (hasBit(heardOn[day], pole)) {
                days++;
            }
        }
        return days;
    }

    private int worthOf(int set) {
        supposed.asTold(line);
        supposed.cupSet = set;
        return heardInAll();
    }

    private int heardByLaw(int law) {
        supposed.asTold(line);
        supposed.law = law;
        return heardInAll();
    }

    // ---- the least that helps ----

    private int leastBattery() {
        long least = 1;
        for (int pole = 0; pole < line.spans; pole++) {
            if (isStation(pole) && line.needs[pole] > 0) {
                long volts = ladder.volts[pole];
                if (volts <= 0) {
                    return NONE;
                }
                least = Math.max(least, (line.needs[pole] * ladder.source + volts - 1) / volts);
            }
        }
        return least > MOST_BATTERY ? NONE : (int) least;
    }

    private int leastCure(int day) {
        supposed.asTold(line);
        int found = NONE;
        for (int set = 0; set <= allPoles(); set++) {
            if (found == NONE || Integer.bitCount(set) < Integer.bitCount(found)) {
                supposed.cupSet = set;
                if (heardBits(day) == line.stationBits()) {
                    found = set;
                }
            }
        }
        return found;
    }

    // ---- what was read ----

    private int refusalOfSeen(int slot, int pole) {
        return isPole(pole) ? refusalOfRow(slot) : NOT_THERE;
    }

    /** 0 if the SLOT's row tells readings of this WIRE, else the answer that is due. */
    private int refusalOfRow(int slot) {
        if (!isTold() || !isSlot(slot)) {
            return NOT_THERE;
        }
        if (!slots.has(slot)) {
            return EMPTY;
        }
        int size = slots.sizes[slot];
        if (size % 3 != 0) {
            return NOT_THERE;
        }
        for (int i = 0; i + 2 < size; i += 3) {
            long day = slots.at(slot, i);
            if (day < 0 || day > line.days || slots.at(slot, i + 1) < 0 || slots.at(slot, i + 2) < 0) {
                return NOT_THERE;
            }
        }
        return 0;
    }

    private boolean isAsSeen(int slot) {
        int size = slots.sizes[slot];
        for (int i = 0; i + 2 < size; i += 3) {
            ladder.settle(line, supposed, (int) slots.at(slot, i));
            ladder.readsInto(fraction);
            if (fraction.above != slots.at(slot, i + 1) || fraction.below != slots.at(slot, i + 2)) {
                return false;
            }
        }
        return true;
    }

    /** Leaks (as bits 1 .. 30) that the POLE can have been told. */
    private int fittingLeaks(int slot, int pole) {
        supposed.asTold(line);
        int fitting = 0;
        for (int leak = 1; leak <= MOST_LEAK; leak++) {
            supposed.leaks[pole] = leak;
            if (isAsSeen(slot)) {
                fitting |= 1 << leak;
            }
        }
        return fitting;
    }

    private int dayToAsk(int fitting, int pole) {
        int found = NONE;
        int fewest = Integer.bitCount(fitting);
        for (int day = 0; day <= line.days; day++) {
            int left = leftAtWorst(fitting, pole, day);
            if (left < fewest) {
                fewest = left;
                found = day;
            }
        }
        return found;
    }

    /** The most of the fitting leaks that one reading of the DAY would leave. */
    private int leftAtWorst(int fitting, int pole, int day) {
        readByLeaks(fitting, pole, day);
        int most = 0;
        for (int leak = 1; leak <= MOST_LEAK; leak++) {
            if (hasBit(fitting, leak)) {
                most = Math.max(most, alikeFrom(fitting, leak));
            }
        }
        return most;
    }

    private void readByLeaks(int fitting, int pole, int day) {
        supposed.asTold(line);
        for (int leak = 1; leak <= MOST_LEAK; leak++) {
            if (hasBit(fitting, leak)) {
                supposed.leaks[pole] = leak;
                ladder.settle(line, supposed, day);
                ladder.readsInto(fraction);
                readsAbove[leak] = fraction.above;
                readsBelow[leak] = fraction.below;
            }
        }
    }

    private int alikeFrom(int fitting, int leak) {
        int alike = 0;
        for (int other = leak; other <= MOST_LEAK; other++) {
            if (hasBit(fitting, other) && readsAbove[other] == readsAbove[leak]
                    && readsBelow[other] == readsBelow[leak]) {
                alike++;
            }
        }
        return alike;
    }

    // ---- the game of two ----

    private static int pairSet(int pole, int other, int cupped, int otherCupped) {
        return (cupped << pole) | (otherCupped << other);
    }

    private int gainOf(int pole, int set) {
        supposed.asTold(line);
        supposed.cupSet = set;
        int days = Integer.bitCount(daysHeard(pole));
        return hasBit(set, pole) ? days - PRICE_OF_CUPS : days;
    }

    // ---- chance and draws ----

    /** How many of some STATIONS hear, over all ways of the DAYS up to this one, weighed in 10 to the power of these. */
    private long heardByChance(int day, int stationBits) {
        supposed.asTold(line);
        int days = day + 1;
        long together = 0;
        for (int wet = 0; wet < (1 << days); wet++) {
            int wetDays = Integer.bitCount(wet);
            long weight = power(line.odds, wetDays) * power(10 - line.odds, days - wetDays);
            if (weight > 0) {
                supposed.wet = wet;
                together += weight * Integer.bitCount(heardBits(day) & stationBits);
            }
        }
        return together;
    }

    private int wetByDraws(int seed) {
        long x = seed;
        int wet = 0;
        for (int day = 0; day <= line.days; day++) {
            x = (1103515245L * x + 12345L) % 2147483648L;
            if ((x / 65536L) % 10L < line.odds) {
                wet |= 1 << day;
            }
        }
        return wet;
    }

    private int heardByDraws(int seed) {
        supposed.asTold(line);
        supposed.wet = wetByDraws(seed);
        return heardBits(line.days);
    }

    /** The bytes fed and not yet told as a WIRE. */
    private static final class Tape {
        final byte[] bytes = new byte[MOST_BYTES];
        int length = 0;

        void append(int four) {
            for (int shift = 24; shift >= 0 && length < MOST_BYTES; shift -= 8) {
                bytes[length] = (byte) (four >> shift);
                length++;
            }
        }

        /** The byte at a place, 0 (which is in no TOKEN) beyond the end. */
        int at(int place) {
            return place >= 0 && place < length ? bytes[place] & 255 : 0;
        }
    }

    /** A WIRE as told, and what was done to it; no LINES: no WIRE. */
    private static final class Line {
        int lines = 0;
        int days = 0;
        int law = 0;
        int odds = 0;
        int volts = 0;
        int spans = 0;
        int wetLines = 0;
        int wet = 0;
        int acts = 0;
        final int[] ohms = new int[MOST_SPANS];
        final int[] leaks = new int[MOST_SPANS];
        final int[] needs = new int[MOST_SPANS];
        final int[] kinds = new int[MOST_ACTS];
        final int[] places = new int[MOST_ACTS];
        final int[] actDays = new int[MOST_ACTS];
        /** DAYS of acts as bits, made from the acts, so that asking for the latest is cheap. */
        final int[] cupDays = new int[MOST_SPANS];
        final int[] snapDays = new int[MOST_SPANS];

        void wipe() {
            lines = 0;
            days = 0;
            law = 0;
            odds = 0;
            volts = 0;
            spans = 0;
            wetLines = 0;
            wet = 0;
            keepActs(0);
        }

        void take(Line other) {
            lines = other.lines;
            days = other.days;
            law = other.law;
            odds = other.odds;
            volts = other.volts;
            spans = other.spans;
            wetLines = other.wetLines;
            wet = other.wet;
            System.arraycopy(other.ohms, 0, ohms, 0, MOST_SPANS);
            System.arraycopy(other.leaks, 0, leaks, 0, MOST_SPANS);
            System.arraycopy(other.needs, 0, needs, 0, MOST_SPANS);
            System.arraycopy(other.kinds, 0, kinds, 0, MOST_ACTS);
            System.arraycopy(other.places, 0, places, 0, MOST_ACTS);
            System.arraycopy(other.actDays, 0, actDays, 0, MOST_ACTS);
            keepActs(other.acts);
        }

        void act(int kind, int place, int day) {
            if (acts < MOST_ACTS) {
                kinds[acts] = kind;
                places[acts] = place;
                actDays[acts] = day;
                keepActs(acts + 1);
            }
        }

        void keepActs(int n) {
            acts = Math.min(n, MOST_ACTS);
            Arrays.fill(cupDays, 0);
            Arrays.fill(snapDays, 0);
            for (int i = 0; i < acts; i++) {
                int[] daysOf = kinds[i] == CUP ? cupDays : snapDays;
                daysOf[places[i]] |= 1 << actDays[i];
            }
        }

        int stationBits() {
            int bits = 0;
            for (int pole = 0; pole < spans; pole++) {
                if (needs[pole] != NONE) {
                    bits |= 1 << pole;
                }
            }
            return bits;
        }

        int latestCup(int pole, int day) {
            int days = cupDays[pole] & ((2 << day) - 1);
            return days == 0 ? NONE : 31 - Integer.numberOfLeadingZeros(days);
        }

        int firstSnap(int span) {
            return snapDays[span] == 0 ? NONE : Integer.numberOfTrailingZeros(snapDays[span]);
        }

        boolean isBroken(int span, int day) {
            return (snapDays[span] & ((2 << day) - 1)) != 0;
        }
    }

    /** The TOKENS of a TAPE, the end as the last one; scanned ahead of reading, so that calls stay shallow. */
    private static final class Tokens {
        private static final int END = 0;
        private static final int NUMBER = 1;
        private static final int SIGN = 2;
        private static final int OTHER = 3;
        private static final int WIRE = 4;
        private static final int DAYS = 5;
        private static final int LAW = 6;
        private static final int ODDS = 7;
        private static final int VOLTS = 8;
        private static final int SPAN = 9;
        private static final int LEAK = 10;
        private static final int NEEDS = 11;
        private static final int WET = 12;
        /** Above every bound: a number stays here, however many digits it has. */
        private static final int TOO_MUCH = 1000;

        final int[] kinds = new int[MOST_BYTES + 1];
        final int[] places = new int[MOST_BYTES + 1];
        final int[] values = new int[MOST_BYTES + 1];
        int size = 0;

        void scan(Tape tape) {
            size = 0;
            int place = 0;
            while (place < tape.length) {
                int sign = tape.at(place);
                int behind = place + 1;
                if (isLetter(sign)) {
                    behind = wordEnd(tape, place);
                    add(wordKind(tape, place, behind), place, 0);
                } else if (isDigit(sign)) {
                    behind = numberEnd(tape, place);
                    add(NUMBER, place, valueOf(tape, place, behind));
                } else if (!isBlank(sign)) {
                    add(sign == ';' ? SIGN : OTHER, place, 0);
                }
                place = Math.max(behind, place + 1);
            }
            add(END, tape.length, 0);
        }

        private void add(int kind, int place, int value) {
            if (size < kinds.length) {
                kinds[size] = kind;
                places[size] = place;
                values[size] = value;
                size++;
            }
        }

        private static int wordEnd(Tape tape, int from) {
            int place = from;
            while (place < tape.length && isLetter(tape.at(place))) {
                place++;
            }
            return place;
        }

        private static int numberEnd(Tape tape, int from) {
            int place = from;
            while (place < tape.length && isDigit(tape.at(place))) {
                place++;
            }
            return place;
        }

        private static int valueOf(Tape tape, int from, int behind) {
            int value = 0;
            for (int place = from; place < behind; place++) {
                value = Math.min(TOO_MUCH, 10 * value + tape.at(place) - '0');
            }
            return value;
        }

        private static int wordKind(Tape tape, int from, int behind) {
            switch (tape.at(from)) {
                case 'w':
                    return isWord(tape, from, behind, "wire") ? WIRE : ifWord(tape, from, behind, "wet", WET);
                case 'd':
                    return ifWord(tape, from, behind, "days", DAYS);
                case 'l':
                    return isWord(tape, from, behind, "law") ? LAW : ifWord(tape, from, behind, "leak", LEAK);
                case 'o':
                    return ifWord(tape, from, behind, "odds", ODDS);
                case 'v':
                    return ifWord(tape, from, behind, "volts", VOLTS);
                case 's':
                    return ifWord(tape, from, behind, "span", SPAN);
                case 'n':
                    return ifWord(tape, from, behind, "needs", NEEDS);
                default:
                    return OTHER;
            }
        }

        private static int ifWord(Tape tape, int from, int behind, String word, int thenKind) {
            return isWord(tape, from, behind, word) ? thenKind : OTHER;
        }

        private static boolean isWord(Tape tape, int from, int behind, String word) {
            if (behind - from != word.length()) {
                return false;
            }
            for (int i = 0; i < word.length(); i++) {
                if (tape.at(from + i) != word.charAt(i)) {
                    return false;
                }
            }
            return true;
        }

        private static boolean isBlank(int sign) {
            return sign == 32 || sign == 10;
        }

        private static boolean isLetter(int sign) {
            return sign >= 'a' && sign <= 'z';
        }

        private static boolean isDigit(int sign) {
            return sign >= '0' && sign <= '9';
        }
    }

    /** Reads TOKENS by the grammar, up to the end or the first FAULT. */
    private static final class Teller {
        int fault = 0;
        int place = 0;
        private int next = 0;
        private int kind = Tokens.END;
        private int value = 0;

        void read(Tokens tokens, Line into) {
            into.wipe();
            fault = 0;
            next = 0;
            for (int i = 0; i < tokens.size; i++) {
                step(tokens);
                if (kind == Tokens.END || !readLine(tokens, into)) {
                    return;
                }
                into.lines++;
            }
        }

        private boolean readLine(Tokens tokens, Line into) {
            if (into.lines == 0) {
                return kind == Tokens.WIRE ? readHead(tokens, into) : fail(1);
            }
            switch (kind) {
                case Tokens.SPAN:
                    return readSpan(tokens, into);
                case Tokens.WET:
                    return readWet(tokens, into);
                default:
                    return fail(1);
            }
        }

        private boolean readHead(Tokens tokens, Line into) {
            if (!readPair(tokens, Tokens.DAYS, 1, MOST_DAYS - 1)) {
                return false;
            }
            into.days = value;
            if (!readPair(tokens, Tokens.LAW, 0, LAWS - 1)) {
                return false;
            }
            into.law = value;
            if (!readPair(tokens, Tokens.ODDS, 0, 10)) {
                return false;
            }
            into.odds = value;
            if (!readPair(tokens, Tokens.VOLTS, 1, 60)) {
                return false;
            }
            into.volts = value;
            step(tokens);
            return isSign();
        }

        private boolean readSpan(Tokens tokens, Line into) {
            int span = into.spans;
            if (span >= MOST_SPANS) {
                return fail(3);
            }
            if (!readNumber(tokens, 1, 12)) {
                return false;
            }
            into.ohms[span] = value;
            if (!readPair(tokens, Tokens.LEAK, 1, MOST_LEAK)) {
                return false;
            }
            into.leaks[span] = value;
            into.needs[span] = NONE;
            step(tokens);
            if (kind == Tokens.NEEDS) {
                if (!readNumber(tokens, 0, MOST_NEEDS)) {
                    return false;
                }
                into.needs[span] = value;
                step(tokens);
            }
            into.spans++;
            return isSign();
        }

        private boolean readWet(Tokens tokens, Line into) {
            if (into.wetLines >= MOST_WETS) {
                return fail(3);
            }
            if (!readNumber(tokens, 0, MOST_DAYS - 1)) {
                return false;
            }
            // a DAY behind the last one may be told, but there is none such to be WET
            if (value <= into.days) {
                into.wet |= 1 << value;
            }
            into.wetLines++;
            step(tokens);
            return isSign();
        }

        private boolean readPair(Tokens tokens, int word, int least, int most) {
            step(tokens);
            return kind == word ? readNumber(tokens, least, most) : fail(1);
        }

        private boolean readNumber(Tokens tokens, int least, int most) {
            step(tokens);
            if (kind != Tokens.NUMBER) {
                return fail(1);
            }
            return value >= least && value <= most || fail(2);
        }

        private boolean isSign() {
            return kind == Tokens.SIGN || fail(1);
        }

        private boolean fail(int what) {
            fault = what;
            return false;
        }

        private void step(Tokens tokens) {
            if (next < tokens.size) {
                kind = tokens.kinds[next];
                place = tokens.places[next];
                value = tokens.values[next];
                next++;
            }
        }
    }

    /** What holds of a WIRE: as told, or otherwise where a question supposes so. */
    private static final class Supposed {
        int law = 0;
        int wet = 0;
        /** POLES CUPPED on DAY 0 besides those of acts, as bits. */
        int cupSet = 0;
        /** A SPAN broken from DAY 0 on besides those of acts, or NONE. */
        int broken = NONE;
        final int[] ohms = new int[MOST_SPANS];
        final int[] leaks = new int[MOST_SPANS];

        void asTold(Line line) {
            law = line.law;
            wet = line.wet;
            cupSet = 0;
            broken = NONE;
            System.arraycopy(line.ohms, 0, ohms, 0, MOST_SPANS);
            System.arraycopy(line.leaks, 0, leaks, 0, MOST_SPANS);
        }

        int leakOn(Line line, int pole, int day) {
            int cup = line.latestCup(pole, day);
            int ground = cup != NONE || hasBit(cupSet, pole) ? MOST_LEAK : leaks[pole];
            switch (law) {
                case 1:
                    return isWet(day) ? halved(ground) : ground;
                case 2:
                    return isWet(day) || isWet(day - 1) ? halved(ground) : ground;
                case 3:
                    return Math.max(1, ground - wetDays(Math.max(0, cup), day));
                default:
                    return ground;
            }
        }

        int leadingOn(Line line, int day) {
            for (int span = 0; span < line.spans; span++) {
                if (span == broken || line.isBroken(span, day)) {
                    return span;
                }
            }
            return line.spans;
        }

        private boolean isWet(int day) {
            return day >= 0 && hasBit(wet, day);
        }

        private int wetDays(int from, int to) {
            return Integer.bitCount((wet >> from) & ((2 << (to - from)) - 1));
        }

        private static int halved(int ground) {
            return Math.max(1, ground / 2);
        }
    }

    /**
     * VOLTS and currents of a DAY, all in one measure: source is what the battery's VOLTS are in it.
     * Seen from the last POLE that leads, with the product of the LEAKS there, all are whole numbers.
     */
    private static final class Ladder {
        int lead = 0;
        long source = 1;
        final int[] leaks = new int[MOST_SPANS];
        final long[] volts = new long[MOST_SPANS];
        final long[] amps = new long[MOST_SPANS];

        void settle(Line line, Supposed supposed, int day) {
            lead = supposed.leadingOn(line, day);
            long all = 1;
            for (int pole = 0; pole < line.spans; pole++) {
                leaks[pole] = Math.max(1, supposed.leakOn(line, pole, day));
                volts[pole] = 0;
                amps[pole] = 0;
                all = pole < lead ? all * leaks[pole] : all;
            }
            long volt = all;
            long amp = 0;
            for (int pole = lead - 1; pole >= 0; pole--) {
                volts[pole] = volt;
                amp += leaks[pole] > 0 ? volt / leaks[pole] : 0;
                amps[pole] = amp;
                volt += supposed.ohms[pole] * amp;
            }
            source = volt;
        }

        long firstAmps() {
            return lead > 0 ? amps[0] : 0;
        }

        void readsInto(Fraction fraction) {
            fraction.set(source, firstAmps());
        }

        long fallOver(int span) {
            if (span >= lead) {
                return 0;
            }
            return (span == 0 ? source : volts[span - 1]) - volts[span];
        }

        boolean leaksMore(int pole, int other) {
            return volts[pole] * leaks[other] > volts[other] * leaks[pole];
        }

        boolean isEnough(int pole, long battery, long needs) {
            return battery * volts[pole] >= needs * source;
        }
    }

    /** A fraction in lowest terms; what has nothing below is 1 / 0. */
    private static final class Fraction {
        long above = 0;
        long below = 1;

        void set(long newAbove, long newBelow) {
            long shared = commonDivisor(Math.abs(newAbove), newBelow);
            above = shared > 0 ? newAbove / shared : newAbove;
            below = shared > 0 ? newBelow / shared : newBelow;
        }

        long part(int what) {
            return what == 0 ? above : below;
        }

        private static long commonDivisor(long a, long b) {
            long greater = a;
            long less = b;
            for (int i = 0; i < MOST_STEPS && less != 0; i++) {
                long rest = greater % less;
                greater = less;
                less = rest;
            }
            return greater;
        }
    }

    /** Rows of numbers, all in one array; a size of NONE: the SLOT has nothing. */
    private static final class Slots {
        final long[] numbers = new long[MOST_SLOTS * MOST_NUMBERS];
        final int[] widths = new int[MOST_SLOTS];
        final int[] sizes = {NONE, NONE, NONE, NONE};

        boolean has(int slot) {
            return sizes[slot] != NONE;
        }

        int used() {
            int found = 0;
            for (int slot = 0; slot < MOST_SLOTS; slot++) {
                if (has(slot)) {
                    found++;
                }
            }
            return found;
        }

        void lay(int slot, int width, int n) {
            widths[slot] = width;
            sizes[slot] = n;
            Arrays.fill(numbers, slot * MOST_NUMBERS, (slot + 1) * MOST_NUMBERS, 0L);
        }

        long at(int slot, int i) {
            return numbers[slot * MOST_NUMBERS + i];
        }

        void put(int slot, int i, long v) {
            numbers[slot * MOST_NUMBERS + i] = cut(widths[slot], v);
        }

        boolean holds(int slot, int i, int n) {
            return i >= 0 && n >= 0 && (long) i + n <= sizes[slot];
        }

        void copy(int slot, int i, int to, int k, int n) {
            System.arraycopy(numbers, slot * MOST_NUMBERS + i, numbers, to * MOST_NUMBERS + k, n);
        }

        private static long cut(int width, long v) {
            switch (width) {
                case 0:
                    return (byte) v;
                case 1:
                    return (short) v;
                case 2:
                    return (int) v;
                default:
                    return v;
            }
        }
    }
}
