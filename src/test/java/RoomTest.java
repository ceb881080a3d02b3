import com.sun.management.ThreadMXBean;
import java.lang.management.ManagementFactory;
import java.util.Arrays;
import java.util.LinkedHashMap;
import java.util.Map;

/**
 * LANGUAGE.md, rule 12: what a run makes is kept small. The room of a run has some 600,000 objects and 7.3 million
 * fields and elements. Of the machine's bytes, each field and element takes one at least, and each object 16: a
 * run that takes fewer than 7.3 million bytes stays within both.
 */
public final class RoomTest {
    private static final long ROOM = 7_300_000;
    private static final int CALLS = 512;
    private static final ThreadMXBean THREADS = (ThreadMXBean) ManagementFactory.getThreadMXBean();

    private RoomTest() {
    }

    public static void main(String[] args) {
        Map<String, Runnable> calls = new LinkedHashMap<>();
        Twinindex index = widest();
        calls.put("new Twinindex()", Twinindex::new);
        calls.put("digest()", index::digest);
        calls.put("text()", index::text);
        calls.put("keys(true)", () -> index.keys(true));
        calls.put("values()", index::values);
        calls.put("uses()", index::uses);
        calls.put("rangeText(least, greatest)", () -> index.rangeText(Check.LEAST, Check.GREATEST));
        calls.put("rangeUse(least, greatest)", () -> index.rangeUse(Check.LEAST, Check.GREATEST));
        calls.put("page(0) and next(0, 24)", () -> {
            index.page(0);
            index.next(0, 24);
        });
        calls.put("isSound()", index::isSound);
        calls.put("put(), get() and remove()", () -> {
            index.put(index.aged(true), 5);
            index.get(index.aged(false));
            index.putNew(index.poll(true), -999);
        });
        calls.put("copy(), clear() and back()", () -> {
            index.copy();
            index.clear();
            index.back();
        });
        calls.put("keep(0) and undo()", () -> {
            index.keep(0);
            index.undo();
        });
        calls.forEach(RoomTest::staysWithin);
        Check.end("RoomTest");
    }

    /** 24 PAIRS, whose KEYS and VALUES have as many signs as there can be. */
    private static Twinindex widest() {
        Twinindex index = new Twinindex();
        for (int number = 0; number < 24; number++) {
            index.put(Check.LEAST + number, -999 + number);
        }
        return index;
    }

    private static void staysWithin(String name, Runnable call) {
        long[] taken = new long[3];
        for (int time = 0; time < taken.length; time++) {
            long before = THREADS.getCurrentThreadAllocatedBytes();
            for (int number = 1; number <= CALLS; number++) {
                call.run();
            }
            taken[time] = THREADS.getCurrentThreadAllocatedBytes() - before;
        }
        // The machine makes objects of its own as it meets a call first.
        long least = Arrays.stream(taken).min().orElse(0);
        Check.same("512 times " + name + " takes " + least + " bytes, which is within the room", least < ROOM, true);
    }
}
