import com.sun.management.ThreadMXBean;
import java.lang.management.ManagementFactory;

/** All calls of one run live in one room, so an object's 512 dearest calls must make little. */
public final class RoomTest {
    private static final int CALLS = 512;
    private static final Check check = new Check();
    private static final ThreadMXBean threads = (ThreadMXBean) ManagementFactory.getThreadMXBean();
    private static int calls;
    /** Kept, so that no call can be found to be needless. */
    private static long answers;

    public static void main(String[] args) {
        int[] bytes = great();
        /* The first round loads classes, which is no object of the program's. */
        round(bytes);
        long[] made = round(bytes);
        within("a new object", made[0], 3_000);
        within("six profiles and sixteen links", made[1], 30_000);
        within("the calls up to the 512th, which keep nothing", made[2], 8_000);
        check.due("answers", true, answers != 0);
        check.end();
    }

    /** How many bytes the steps of a run made. */
    private static long[] round(int[] bytes) {
        long begin = made();
        ColourLinker x = new ColourLinker();
        long fresh = made();
        calls = 0;
        keepAll(x, bytes);
        long full = made();
        for (int i = 0; calls < CALLS; i++) {
            answers += anyCall(x, i);
        }
        long end = made();
        check.due("profiles", 6, x.profiles());
        check.due("links", 16, x.links());
        return new long[] {fresh - begin, full - fresh, end - full};
    }

    private static long made() {
        return threads.getThreadAllocatedBytes(Thread.currentThread().getId());
    }

    private static void within(String what, long bytes, long most) {
        check.due(what + ": " + bytes + " bytes, which is at most " + most, true, bytes <= most);
    }

    /** All twelve entries, in the greatest form that fits. */
    private static int[] great() {
        int[] e = new int[24];
        for (int i = 0; i < e.length; i++) {
            e[i] = 2800 * i;
        }
        Draft draft = new Draft(2, 3, 1).entry(1, Draft.samples(e)).shared(2, 1).shared(3, 1).shared(4, 1).entry(5, Draft.unit());
        draft.entry(6, Draft.still()).shared(7, 6).shared(8, 6).shared(9, 6).shared(10, 6).shared(11, 6).white(1, 2, 3);
        return draft.bytes();
    }

    private static void keepAll(ColourLinker x, int[] bytes) {
        Draft.load(x, bytes);
        calls += 1 + bytes.length / 4;
        /* The level v0 of the first node, so that no two profiles have one black level. */
        int black = bytes.length - 8 - 28 + 2;
        for (int p = 0; p < 6; p++) {
            x.set(black, 20 * p);
            x.parse();
            calls += 2;
        }
        for (int l = 0; l < 16; l++) {
            answers += l < 6 ? x.link(l, 5 - l, l % 3, true) : x.extend(l - 6, l % 5, l % 3, true);
            calls++;
        }
    }

    /** A call that keeps nothing, by turns of each kind. */
    private static long anyCall(ColourLinker x, int i) {
        calls++;
        switch (i % 8) {
            case 0:
                return x.convert(i % 16, i, 2 * i, 3 * i);
            case 1:
                return x.after(i % 16, x.pieces(i % 16), i, i, i);
            case 2:
                return x.curve(i % 6, 1 + i % 4, 100 * i, true);
            case 3:
                return x.same(i % 6, 0) ? 1 : 0;
            case 4:
                return x.write(i % 6);
            case 5:
                return x.parse();
            case 6:
                return x.link(i % 6, i / 6 % 6, i % 3, true);
            default:
                return x.extend(i % 16, i / 6 % 6, i % 3, true);
        }
    }
}
