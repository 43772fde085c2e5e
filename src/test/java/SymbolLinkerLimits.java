import java.lang.management.ManagementFactory;

/** The limits that a run of 512 calls does not reach, and what the dearest runs make. */
public final class SymbolLinkerLimits {
    private static final long ENTRY = 0x7374617274L;
    private static final int CALLS = 512;
    // All calls of a run share 7.3 million fields and elements; one object is to leave most of them.
    private static final long MOST_BYTES_MADE = 3_000_000;
    private static int wrong = 0;

    private static void due(String what, long got, long want) {
        if (got != want) {
            wrong++;
            System.out.println(what + " answered " + got + ", due is " + want);
        }
    }

    private static int linked(SymbolLinker x) {
        try {
            return x.link();
        } catch (IllegalStateException e) {
            return -1000;
        }
    }

    private static void mostSymbols() {
        SymbolLinker x = new SymbolLinker();
        x.unit(false, 16, 0, 0, 0);
        x.symbol(ENTRY, 5, 1, 0, 0, 0);
        for (int k = 1; k < 1500; k++) {
            due("symbol", x.symbol(k, 2, 1, 0, 5, 0), k);
        }
        x.unit(false, 0, 0, 0, 0);
        for (int k = 0; k < 548; k++) {
            due("symbol", x.symbol(k, 3, 1, 0, 0, 0), k);
        }
        due("symbol 2048", x.symbol(1, 4, 0, -1, 0, 0), -1);
        due("link", linked(x), 16);
        due("the last name of unit 0", x.address(1499, 2), 0x400005);
        x.clear();
        x.unit(false, 0, 0, 0, 0);
        due("symbol behind clear", x.symbol(1, 4, 0, -1, 0, 0), 0);
    }

    private static void mostWaits() {
        SymbolLinker x = new SymbolLinker();
        x.unit(false, 65536, 0, 0, 0);
        x.symbol(ENTRY, 5, 1, 0, 0, 0);
        for (int k = 0; k < 4096; k++) {
            due("await", x.await(0, 8 * k, 8, -1, -1, k, 0) ? 1 : 0, 1);
        }
        due("await 4096", x.await(0, 0, 8, -1, -1, 0, 0) ? 1 : 0, 0);
        due("link", linked(x), 65536);
        due("the last one's byte", x.octet(8 * 4095 + 1), 15);
        x.clear();
        x.unit(false, 8, 0, 0, 0);
        due("await behind clear", x.await(0, 0, 8, -1, -1, 0, 0) ? 1 : 0, 1);
    }

    private static void mostStarts() {
        SymbolLinker x = new SymbolLinker();
        x.unit(false, 65536, 0, 0, 0);
        x.symbol(ENTRY, 5, 1, 0, 0, 0);
        for (int k = 0; k < 8192; k++) {
            due("start", x.start(k, k) ? 1 : 0, 1);
        }
        due("start 8192", x.start(9000, 0) ? 1 : 0, 0);
        due("link", linked(x), 65536);
        due("the last one's line", x.line(8191), 8191);
        x.clear();
        x.unit(false, 8, 0, 0, 0);
        due("start behind clear", x.start(0, 0) ? 1 : 0, 1);
    }

    private static long bytesMade() {
        java.lang.management.ThreadMXBean bean = ManagementFactory.getThreadMXBean();
        if (bean instanceof com.sun.management.ThreadMXBean counting && counting.isThreadAllocatedMemorySupported()) {
            return counting.getThreadAllocatedBytes(Thread.currentThread().getId());
        }
        return 0;
    }

    private static void largeImagesAgainAndAgain() {
        long before = bytesMade();
        SymbolLinker x = new SymbolLinker();
        for (int k = 0; k + 8 <= CALLS; k += 8) {
            x.clear();
            x.unit(false, 65536, 65536, 65536, 65536);
            x.symbol(ENTRY, 5, 1, 0, 0, 0);
            x.keep(1);
            x.keep(2);
            x.keep(3);
            due("link", linked(x), 262144);
            due("link", linked(x), 262144);
        }
        long made = bytesMade() - before;
        if (made > MOST_BYTES_MADE) {
            wrong++;
            System.out.println("large images made " + made + " bytes of objects");
        }
    }

    private static void manyNamesAgainAndAgain() {
        long before = bytesMade();
        SymbolLinker x = new SymbolLinker();
        x.unit(false, 256, 0, 0, 0);
        x.symbol(ENTRY, 5, 1, 0, 0, 0);
        for (int k = 0; k < 85; k++) {
            x.symbol(k, 1, 1, 0, k, 0);
            x.start(k, k);
            x.await(0, k, 8, -1, k, 0, k);
        }
        for (int k = 0; k < 250; k++) {
            due("link", linked(x), 256);
        }
        long made = bytesMade() - before;
        if (made > MOST_BYTES_MADE / 10) {
            wrong++;
            System.out.println("many names made " + made + " bytes of objects");
        }
    }

    private static void manyObjects() {
        long before = bytesMade();
        for (int k = 0; k < CALLS; k++) {
            new SymbolLinker().unit(false, 16, 0, 0, 0);
        }
        long made = bytesMade() - before;
        if (made > MOST_BYTES_MADE) {
            wrong++;
            System.out.println("many objects made " + made + " bytes of objects");
        }
    }

    public static void main(String[] args) {
        // The first reading makes objects of its own.
        bytesMade();
        mostSymbols();
        mostWaits();
        mostStarts();
        largeImagesAgainAndAgain();
        manyNamesAgainAndAgain();
        manyObjects();
        System.out.println(wrong == 0 ? "all limits hold" : wrong + " answers are not as due");
        if (wrong != 0) {
            System.exit(1);
        }
    }
}
