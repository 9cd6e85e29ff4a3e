import com.sun.management.ThreadMXBean;
import java.lang.management.ManagementFactory;
import java.util.Random;

/**
 * "All calls of one run live in one room: some 600,000 objects and arrays, 7.3 million fields and elements in all." The
 * machine tells the bytes that were ever asked for. An element takes one byte at least, and an object sixteen: so a run
 * that asked for fewer than 7.3 million bytes has neither too many elements nor too many objects.
 */
public final class RoomTest {
    private static final long ROOM = 7_300_000;
    private static final int CALLS = 512;
    private static final ThreadMXBean THREADS = (ThreadMXBean) ManagementFactory.getThreadMXBean();

    public static void main(String[] args) {
        Check.same("what is made is counted", bytesOf(() -> new int[1000]) >= 4000, true);
        run("a new object", RoomTest::newObjects, ROOM / 20);
        run("as many positions as can be", RoomTest::widestGames, ROOM);
        run("as many forms as can be", RoomTest::manyForms, ROOM);
        run("calls that are refused", RoomTest::refusedCalls, ROOM);
        run("texts written again and again", RoomTest::textsAgain, ROOM);
        run("walls, temperatures and checks", RoomTest::heatAgain, ROOM);
        for (int seed = 0; seed < 300; seed++) {
            int fixed = seed;
            run("mixed calls, seed " + seed, () -> mixedCalls(fixed), ROOM);
        }
        Check.end("RoomTest");
    }

    /** A run; the answer is only there so that what is made is not left out. */
    private interface Run {
        Object go();
    }

    private static void run(String what, Run run, long room) {
        run.go();
        long bytes = bytesOf(run);
        Check.same(what + ": " + bytes + " bytes are in the room", bytes <= room, true);
    }

    private static long bytesOf(Run run) {
        long before = THREADS.getCurrentThreadAllocatedBytes();
        Object kept = run.go();
        long bytes = THREADS.getCurrentThreadAllocatedBytes() - before;
        return kept == null ? -1 : bytes;
    }

    private static Object newObjects() {
        return new Thermographica();
    }

    /** Sums of 39 and 40 positions, no two of them with a position in common. */
    private static Object widestGames() {
        Thermographica x = new Thermographica();
        int four = x.whole(4);
        int eight = x.sum(x.heap(1), x.heap(3));
        int positions = x.positions(x.sum(four, eight)) + x.positions(x.sum(eight, four));
        for (int i = 6; i < 24; i++) {
            positions += x.positions(x.turned(i - 2));
        }
        Check.same("positions of the widest games", positions, 800);
        askAll(x);
        return x;
    }

    /** Hot games and small ones that are no numbers, and sums of them: 67 forms, more than by other games that were tried. */
    private static Object manyForms() {
        Thermographica x = new Thermographica();
        x.whole(-1);
        x.heap(2);
        x.heap(0);
        x.whole(1);
        Check.made(x, Check.of(2), Check.of(1));
        Check.made(x, Check.of(3), Check.of(4));
        Check.made(x, Check.of(3), Check.of(2));
        Check.made(x, Check.of(3), Check.of(6));
        Check.made(x, Check.of(4, 4), Check.of(4));
        Check.made(x, Check.of(8), Check.of(7, 8));
        int[][] sums = {{7, 5}, {8, 5}, {4, 5}, {5, 6}, {6, 9}, {7, 7}, {12, 2}, {9, 3}, {4, 7}, {18, 2}, {19, 3}, {3, 17},
            {6, 8}, {0, 19}};
        for (int[] pair : sums) {
            x.sum(pair[0], pair[1]);
        }
        askAll(x);
        return x;
    }

    private static void askAll(Thermographica x) {
        for (int game = 0; game < 24; game++) {
            int asked = game;
            Shelf.answer(() -> x.write(asked));
            Shelf.answer(() -> x.temperature(asked));
            Shelf.answer(() -> x.compareByPlay(asked, 23 - asked));
            Shelf.answer(() -> x.wall(asked, true, asked));
            Shelf.answer(() -> x.begin(asked, true));
            Shelf.answer(() -> x.move(0));
        }
        x.isSound();
    }

    private static Object refusedCalls() {
        Thermographica x = new Thermographica();
        int wide = Shelf.forty(x);
        for (int i = 0; i < 4; i++) {
            x.tellOption(true, wide);
            x.tellOption(false, wide - i);
        }
        for (int call = 14; call + 4 < CALLS; call += 4) {
            Shelf.answer(x::make);
            Shelf.answer(() -> x.sum(wide, wide));
            Shelf.answer(() -> x.tellOption(true, wide));
            Shelf.answer(x::winningMove);
        }
        return x;
    }

    /** Long texts, and ever longer ones in which they stand. */
    private static Object textsAgain() {
        Thermographica x = new Thermographica();
        int nought = x.whole(0);
        int last = Shelf.up(x);
        for (int game = last + 1; game < 13; game++) {
            last = Check.made(x, Check.of(last, nought), Check.of(last - 1, last));
        }
        for (int call = 70; call < CALLS; call++) {
            int game = call % 13;
            Shelf.answer(() -> x.write(game));
        }
        return x;
    }

    private static Object heatAgain() {
        Thermographica x = new Thermographica();
        int one = Shelf.hot(x, 3, 0);
        int last = x.sum(one, Shelf.hot(x, 1, 0));
        for (int call = 12; call + 3 < CALLS; call += 3) {
            x.wall(last, call % 2 == 0, call % 401);
            x.temperature(last);
            x.isSound();
        }
        return x;
    }

    private static Object mixedCalls(int seed) {
        Thermographica x = new Thermographica();
        Random random = new Random(seed);
        x.whole(random.nextInt(13) - 6);
        x.heap(random.nextInt(4));
        for (int call = 2; call < CALLS; call++) {
            int first = random.nextInt(24);
            int second = random.nextInt(8);
            Shelf.answer(() -> mixedCall(x, second, first, random.nextInt(8)));
        }
        return x;
    }

    private static Object mixedCall(Thermographica x, int kind, int first, int second) {
        switch (kind) {
            case 0:
                return x.sum(first, second);
            case 1:
                return x.turned(first);
            case 2:
                return x.tellOption(second % 2 == 0, first);
            case 3:
                return x.make();
            case 4:
                return x.write(first);
            case 5:
                return x.whole(first - 6);
            case 6:
                return x.mean(first);
            default:
                return x.compareByPlay(first, second);
        }
    }
}
