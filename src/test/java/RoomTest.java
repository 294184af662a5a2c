import java.lang.reflect.Method;

/**
 * All calls of a run live in one room of 7.3 million fields and elements. Each of them takes a byte at least, so
 * the bytes that 512 of the dearest calls take must stay below that.
 */
final class RoomTest {
    private static final long MOST = 7_300_000;
    private static final int CALLS = 512;

    public static void main(String[] args) throws Exception {
        dearest(new GlyphCompiler());
        long before = bytes();
        GlyphCompiler x = new GlyphCompiler();
        long made = bytes();
        int calls = dearest(x);
        long after = bytes();
        System.out.println("bytes: " + (made - before) + " for an object, " + (after - made) + " for " + calls + " calls");
        Check.due("calls", calls, CALLS);
        Check.due("the room holds them", after - before < MOST, true);
        Check.end();
    }

    /** Long expansions that end in a path of twelve curves, and all that can be asked, as often as an object may be. */
    private static int dearest(GlyphCompiler x) {
        int calls = 0;
        int[][] curve = {{4, 7}, {4, 3}, {0, 96}, {4, 5}, {0, 160}, {4, 4}};
        for (int token = 0; token < 18; token++) {
            x.feed(curve[token % 6][0], curve[token % 6][1]);
            calls++;
        }
        x.macro(0, 0);
        calls++;
        while (calls < CALLS - 22) {
            int[][] path = {{4, 10}, {4, 3}, {0, 0}, {4, 5}, {0, 0}, {4, 4}, {3, 0}, {3, 0}, {3, 0}, {3, 0}, {3, 0}, {3, 0}, {3, 0}, {3, 0}, {3, 0},
                {3, 0}, {3, 0}, {3, 0}, {4, 8}, {4, 9}, {4, 6}};
            for (int[] token : path) {
                x.feed(token[0], token[1]);
            }
            Check.due("run()", x.run(), GlyphCompiler.OK);
            calls += path.length + 1;
        }
        for (int more = calls; more < CALLS; more++) {
            x.count(more % 15);
            calls++;
        }
        return calls;
    }

    /** What this thread has taken so far; 0 where the machine does not tell. */
    private static long bytes() throws Exception {
        try {
            Object threads = Class.forName("java.lang.management.ManagementFactory").getMethod("getThreadMXBean").invoke(null);
            Method taken = Class.forName("com.sun.management.ThreadMXBean").getMethod("getThreadAllocatedBytes", long.class);
            return (Long) taken.invoke(threads, Thread.currentThread().getId());
        } catch (ClassNotFoundException unknown) {
            return 0;
        }
    }
}
