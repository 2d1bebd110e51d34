import com.sun.management.ThreadMXBean;
import java.lang.management.ManagementFactory;
import java.lang.reflect.Array;
import java.lang.reflect.Field;
import java.lang.reflect.Modifier;
import java.util.ArrayDeque;
import java.util.Collections;
import java.util.Deque;
import java.util.IdentityHashMap;
import java.util.Set;

/** All calls of a run live in one room: what an object holds is little, and calls make nothing. */
public final class RoomTest {
    private static final Check CHECK = new Check("RoomTest");
    /** Steps of one() that keep an object below its 512 calls: some are two or three calls, full() some 120. */
    private static final int STEPS = 280;
    private static final int ROUNDS = 5;
    private static final int MOST_OBJECTS = 80;
    private static final int MOST_CELLS = 4000;
    private static final String FULL = "wire days 13 law 3 odds 5 volts 60;"
            + "span 1 leak 30 needs 9;span 2 leak 29 needs 8;span 3 leak 28 needs 7;"
            + "span 4 leak 27 needs 6;span 5 leak 26 needs 5;wet 2;wet 3;wet 5;wet 8;wet 9;wet 11;wet 12;wet 13;";

    private static long heard = 0;

    public static void main(String[] args) throws Exception {
        held();
        made();
        many();
        CHECK.close();
    }

    private static void held() throws Exception {
        LeakyLine x = full();
        for (int k = 0; k < 3; k++) {
            x.image(k);
        }
        Set<Object> seen = Collections.newSetFromMap(new IdentityHashMap<>());
        Deque<Object> open = new ArrayDeque<>();
        open.add(x);
        seen.add(x);
        int cells = 0;
        while (!open.isEmpty()) {
            cells += look(open.poll(), seen, open);
        }
        CHECK.holds("objects and arrays are few: " + seen.size(), seen.size() <= MOST_OBJECTS);
        CHECK.holds("fields and elements are few: " + cells, cells <= MOST_CELLS);
    }

    /** How many fields or elements a thing has; those that are things, too, are still to be looked at. */
    private static int look(Object thing, Set<Object> seen, Deque<Object> open) throws Exception {
        int cells = 0;
        if (thing.getClass().isArray()) {
            cells = Array.getLength(thing);
            for (int i = 0; i < cells && !thing.getClass().getComponentType().isPrimitive(); i++) {
                meet(Array.get(thing, i), seen, open);
            }
            return cells;
        }
        for (Field field : thing.getClass().getDeclaredFields()) {
            if (!Modifier.isStatic(field.getModifiers())) {
                cells++;
                field.setAccessible(true);
                if (!field.getType().isPrimitive()) {
                    meet(field.get(thing), seen, open);
                }
            }
        }
        return cells;
    }

    private static void meet(Object thing, Set<Object> seen, Deque<Object> open) {
        if (thing != null && seen.add(thing)) {
            open.add(thing);
        }
    }

    /** Bytes that calls make: none but the image's, which comes ahead. The least of some rounds: the first loads classes. */
    private static void made() {
        ThreadMXBean bean = (ThreadMXBean) ManagementFactory.getThreadMXBean();
        if (!bean.isThreadAllocatedMemorySupported()) {
            System.out.println("RoomTest: this machine does not count what a thread makes");
            return;
        }
        long least = Long.MAX_VALUE;
        for (int round = 0; round < ROUNDS; round++) {
            LeakyLine x = full();
            long ahead = bean.getThreadAllocatedBytes(Thread.currentThread().getId());
            dearest(x, STEPS);
            least = Math.min(least, bean.getThreadAllocatedBytes(Thread.currentThread().getId()) - ahead);
        }
        CHECK.holds("calls make nothing: " + least + " bytes", least < STEPS);
    }

    /** The answers of an object that is asked nearly 512 times are those of a new one. */
    private static void many() {
        LeakyLine x = full();
        dearest(x, STEPS);
        LeakyLine fresh = full();
        x.anew();
        CHECK.due("sum() behind many calls", fresh.sum(), x.sum());
        CHECK.due("hears(13) behind many calls", fresh.hears(13), x.hears(13));
        CHECK.due("share(0, 0) behind many calls", fresh.share(0, 0), x.share(0, 0));
        CHECK.due("mean(7, 0) behind many calls", fresh.mean(7, 0), x.mean(7, 0));
        CHECK.due("fits(0, 0) behind many calls", fresh.fits(0, 0), x.fits(0, 0));
        CHECK.holds("all was asked", heard != 0);
    }

    private static LeakyLine full() {
        LeakyLine x = Check.told(FULL);
        long[] numbers = new long[60];
        for (int i = 0; i < 60; i += 3) {
            numbers[i] = i / 3 % 14;
            numbers[i + 1] = x.ohms(i / 3 % 14, 0);
            numbers[i + 2] = x.ohms(i / 3 % 14, 1);
        }
        Check.row(x, 0, 3, numbers);
        x.row(1, 3, 0);
        x.image(0);
        return x;
    }

    private static void dearest(LeakyLine x, int steps) {
        for (int i = 0; i < steps; i++) {
            heard += one(x, i % 16, i % 5);
        }
    }

    private static long one(LeakyLine x, int which, int pole) {
        switch (which) {
            case 0:
                return x.share(pole, 1);
            case 1:
                return x.mean(7, 1);
            case 2:
                return x.chance(pole, 7, 1);
            case 3:
                return x.ask(1, pole);
            case 4:
                return x.leaves(1, pole);
            case 5:
                return x.spots(0);
            case 6:
                return x.rests(pole, (pole + 1) % 5);
            case 7:
                return x.luck(2000000000, 20, pole);
            case 8:
                return x.cups(pole, 5);
            case 9:
                return x.snaps(4, 13);
            case 10:
                return x.image(0);
            case 11:
                return x.wire() + x.back(0);
            case 12:
                return x.cures(13);
            case 13:
                return x.undo();
            case 14:
                return x.laws(0) + x.breaks(0);
            default:
                return x.row(2, 3, 60) + x.write(2, 59, -1L) + x.paste(2, 0, 2, 1, 59);
        }
    }
}
