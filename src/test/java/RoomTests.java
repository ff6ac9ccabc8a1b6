import java.lang.management.ManagementFactory;

/** What the dearest runs of 512 calls make, in bytes: one room holds all of a run, and nothing is given back. */
public final class RoomTests {
    /** Far below 7.3 million fields and elements, at two bytes the least. */
    private static final long MOST_BYTES = 3_000_000L;
    private static final int CALLS = 512;
    private static final int ONE = Float.floatToRawIntBits(1f);
    private static final com.sun.management.ThreadMXBean THREADS =
            (com.sun.management.ThreadMXBean) ManagementFactory.getThreadMXBean();
    private static int wrong = 0;

    private interface Run {
        void calls(SailLoft x);
    }

    private static void measure(String name, Run run) {
        long before = THREADS.getThreadAllocatedBytes(Thread.currentThread().getId());
        run.calls(new SailLoft());
        long made = THREADS.getThreadAllocatedBytes(Thread.currentThread().getId()) - before;
        System.out.println(name + ": " + made + " bytes");
        if (made > MOST_BYTES) {
            wrong++;
            System.out.println(name + " makes too much");
        }
    }

    private static void newOnes(SailLoft x) {
        for (int n = 0; n < CALLS; n++) {
            new SailLoft().count(0);
        }
    }

    private static void boltsAndRows(SailLoft x) {
        for (int n = 0; n < 16; n++) {
            x.bolt(20, 200, ONE);
        }
        for (int n = 16; n < CALLS; n++) {
            x.row(n % 16, 200);
        }
    }

    private static void sailsAndEdges(SailLoft x) {
        for (int n = 0; n < CALLS / 4; n++) {
            x.sail(0, 10, 0, 10, 60);
            x.edge(0, 0, 61);
            x.edge(0, 1, 61);
            x.undo();
        }
    }

    private static void cuts(SailLoft x) {
        x.sail(0, 10, 0, 10, 40);
        for (int n = 0; n < CALLS / 2; n++) {
            x.cut(0, 2, 1);
            x.undo();
        }
    }

    private static void plans(SailLoft x) {
        for (int n = 0; n < 24; n++) {
            x.bolt(20, 200, ONE);
        }
        for (int s = 0; s < 10; s++) {
            x.sail(0, 10, 0, 10, 40);
            x.cut(s, 2, 1);
        }
        for (int n = 0; n < CALLS / 2 - 22; n++) {
            x.plan(0);
            x.undo();
        }
    }

    private static void takes(SailLoft x) {
        x.bolt(20, 200, ONE);
        x.sail(0, 5, 0, 5, 23);
        x.cut(0, 2, 1);
        x.plan(0);
        for (int n = 0; n < CALLS / 2 - 2; n++) {
            x.take(0);
            x.undo();
        }
    }

    private static void asks(SailLoft x) {
        for (int n = 0; n < 24; n++) {
            x.bolt(20, 200, ONE);
        }
        for (int s = 0; s < 10; s++) {
            x.sail(0, 10, 0, 10, 8);
            x.cut(s, 2, 1);
            x.set(s, true);
            x.line(s, 1 + s % 7);
        }
        x.wind(0, 1000);
        x.mast(0, 1);
        for (int n = 0; n < (CALLS - 66) / 2; n++) {
            x.fewest(n % 10, 0);
            x.least();
        }
    }

    public static void main(String[] args) {
        measure("new objects", RoomTests::newOnes);
        measure("bolts and rows", RoomTests::boltsAndRows);
        measure("sails and edges", RoomTests::sailsAndEdges);
        measure("cuts", RoomTests::cuts);
        measure("plans", RoomTests::plans);
        measure("takes", RoomTests::takes);
        measure("asks", RoomTests::asks);
        if (wrong != 0) {
            System.exit(1);
        }
    }
}
