import java.lang.management.ManagementFactory;
import java.lang.reflect.Array;
import java.lang.reflect.Field;
import java.lang.reflect.Modifier;
import java.util.IdentityHashMap;
import java.util.Map;
import java.util.NoSuchElementException;

/** The limits that a run of 512 calls does not reach, and what a run makes. */
public final class SymbolLinkerLimits {
    private static final long ENTRY = 0x7374617274L;
    private static final int CALLS = 512;
    // The fields and elements that all calls of a run share.
    private static final long MOST_MADE = 7_300_000;
    private static final com.sun.management.ThreadMXBean COUNTER =
            (com.sun.management.ThreadMXBean) ManagementFactory.getThreadMXBean();
    private static int wrong = 0;
    private static long ownBytes = 0;
    private static long dearestBytes = 0;
    private static String dearestCall = "";

    private static void due(String what, long got, long want) {
        if (got != want) {
            wrong++;
            System.out.println(what + " answered " + got + ", due is " + want);
        }
    }

    private static int linked(SymbolLinker x) {
        try {
            return x.link();
        } catch (IllegalStateException e) {
            return -1000;
        }
    }

    private static int addressOf(SymbolLinker x, long word, int n) {
        try {
            return x.address(word, n);
        } catch (NoSuchElementException e) {
            return -1000;
        }
    }

    /** Twice, since clear() makes room for as many as at first. */
    private static void mostSymbols() {
        SymbolLinker x = new SymbolLinker();
        for (int round = 0; round < 2; round++) {
            x.unit(false, 2048, 0, 0, 0);
            due("ENTRY", x.symbol(ENTRY, 5, 1, 0, 0, 0), 0);
            for (int k = 1; k < 1500; k++) {
                due("symbol", x.symbol(k, 2, 1, 0, k, 0), k);
            }
            x.unit(false, 2048, 0, 0, 0);
            x.keep(0);
            for (int k = 0; k < 548; k++) {
                due("symbol", x.symbol(k, 3, 1, 0, k, 0), k);
            }
            due("missing symbol 2048", x.symbol(1, 4, 0, -1, 0, 0), -1);
            due("label 2048", x.symbol(1, 4, 1, 0, 0, 0), -1);
            due("a name that the unit has", x.symbol(547, 3, 1, 0, 0, 0), -1);
            due("a number that no symbol has", x.await(0, 0, 4, -1, 548, 0, 0) ? 1 : 0, 0);
            due("a unit without room for symbols", x.unit(false, 0, 0, 0, 0), 2);
            due("its symbol", x.symbol(1, 1, 1, 0, 0, 0), -1);
            due("link", linked(x), 4096);
            due("ENTRY", addressOf(x, ENTRY, 5), 0x400000);
            due("the last name of unit 0", addressOf(x, 1499, 2), 0x400000 + 1499);
            due("the first name of unit 1", addressOf(x, 0, 3), 0x400800);
            due("the last name of all", addressOf(x, 547, 3), 0x400800 + 547);
            due("a refused name", addressOf(x, 1, 4), -1000);
            x.clear();
        }
        x.unit(false, 0, 0, 0, 0);
        due("symbol behind clear", x.symbol(1, 4, 0, -1, 0, 0), 0);
        due("symbol of the same name", x.symbol(1, 4, 0, -1, 0, 0), -1);
    }

    private static void mostWaits() {
        SymbolLinker x = new SymbolLinker();
        for (int round = 0; round < 2; round++) {
            x.unit(false, 16384, 0, 0, 0);
            x.symbol(ENTRY, 5, 1, 0, 0, 0);
            for (int k = 0; k < 2048; k++) {
                due("await", x.await(0, 8 * k, 8, -1, -1, k, 0) ? 1 : 0, 1);
            }
            x.unit(false, 16384, 8, 0, 0);
            x.keep(0);
            for (int k = 2048; k < 4096; k++) {
                due("await", x.await(0, 8 * (k - 2048), 8, -1, -1, k, 0) ? 1 : 0, 1);
            }
            due("await 4096", x.await(0, 16376, 8, -1, -1, -1, 0) ? 1 : 0, 0);
            due("await 4096 of a section", x.await(0, 0, 4, -1, -3, 0, 0) ? 1 : 0, 0);
            due("await 4096 that does not fit", x.await(0, 0, 4, -1, -1, 1L << 40, 0) ? 1 : 0, 0);
            due("link", linked(x), 32768);
            due("a refused one's section", x.needed(1, 1), 0);
            due("the first one's byte", x.octet(0), 0);
            due("the last one's low byte", x.octet(32760), 255);
            due("the last one's next byte", x.octet(32761), 15);
            due("the last one's last byte", x.octet(32767), 0);
            x.clear();
        }
        x.unit(false, 8, 0, 0, 0);
        due("await behind clear", x.await(0, 0, 8, -1, -1, 0, 0) ? 1 : 0, 1);
    }

    private static void mostStarts() {
        SymbolLinker x = new SymbolLinker();
        for (int round = 0; round < 2; round++) {
            x.unit(false, 8192, 0, 0, 0);
            x.symbol(ENTRY, 5, 1, 0, 0, 0);
            for (int k = 0; k < 4096; k++) {
                due("start", x.start(k, k) ? 1 : 0, 1);
            }
            x.unit(false, 8192, 0, 0, 0);
            x.keep(0);
            for (int k = 4096; k < 8192; k++) {
                due("start", x.start(k, k) ? 1 : 0, 1);
            }
            due("start 8192", x.start(9, 0) ? 1 : 0, 0);
            due("start 8192 at a place of before", x.start(8191, 0) ? 1 : 0, 0);
            due("link", linked(x), 16384);
            due("the first one's line", x.line(0), 0);
            due("the last one's line in unit 0", x.line(4095), 4095);
            due("behind it", x.line(4096), -1);
            due("a refused one's line", x.line(8192 + 9), -1);
            due("the last one's line", x.line(8192 + 8191), 65536 + 8191);
            x.clear();
        }
        x.unit(false, 8, 0, 0, 0);
        due("start behind clear", x.start(0, 0) ? 1 : 0, 1);
    }

    /**
     * All that this thread has made so far, in bytes: these are never fewer than the fields and elements, nor than
     * sixteen times the objects, so that a bound on them bounds both.
     */
    private static long bytesMade() {
        return COUNTER.getThreadAllocatedBytes(Thread.currentThread().getId());
    }

    private static void counted(String call, long before) {
        long made = bytesMade() - before - ownBytes;
        if (made > dearestBytes) {
            dearestBytes = made;
            dearestCall = call;
        }
    }

    private static void countUnits(SymbolLinker x) {
        for (int size = 1; size <= 65536; size *= 4) {
            for (int kind = 0; kind < 4; kind++) {
                long before = bytesMade();
                x.clear();
                counted("clear", before);
                before = bytesMade();
                x.unit(false, kind == 0 ? 0 : size, kind == 1 ? 0 : size, kind == 2 ? 0 : size, kind == 3 ? 0 : size);
                counted("unit", before);
                before = bytesMade();
                x.unit(true, size, size, 0, size);
                counted("a second unit", before);
                before = bytesMade();
                x.unit(true, -1, size, 0, size);
                counted("no unit", before);
            }
        }
    }

    private static void countOtherCalls(SymbolLinker x) {
        long before = bytesMade();
        x.put(0, 0, -1, 8);
        counted("put", before);
        before = bytesMade();
        x.keep(1);
        counted("keep", before);
        before = bytesMade();
        x.fault(0);
        counted("fault", before);
        before = bytesMade();
        x.needed(0, 0);
        counted("needed", before);
        before = bytesMade();
        x.octet(0);
        counted("octet", before);
        before = bytesMade();
        x.line(0);
        counted("line", before);
        before = bytesMade();
        x.part(0);
        counted("part", before);
    }

    private static void countAddresses(SymbolLinker x) {
        long before = bytesMade();
        try {
            x.address(ENTRY, 5);
        } catch (NoSuchElementException e) {
            due("address", -1000, 0x400000);
        }
        counted("address", before);
        before = bytesMade();
        try {
            due("address of nothing", x.address(ENTRY, 8), -1000);
        } catch (NoSuchElementException e) {
            counted("address of nothing", before);
        }
    }

    private static void countLink(SymbolLinker x, String call, int size) {
        long before = bytesMade();
        int got = linked(x);
        counted(call, before);
        due(call, got, size);
    }

    private static void countFilling(SymbolLinker x) {
        x.clear();
        x.unit(false, 65536, 65536, 65536, 65536);
        x.keep(1);
        x.keep(2);
        x.keep(3);
        for (int k = 0; k < 2048; k++) {
            long before = bytesMade();
            x.symbol(k == 0 ? ENTRY : k, k == 0 ? 5 : 2, 1, 0, k, 0);
            counted("symbol", before);
        }
        for (int k = 0; k < 4096; k++) {
            long before = bytesMade();
            x.await(0, k, 8, k, k % 2048, k, k);
            counted("await", before);
        }
        for (int k = 0; k < 8192; k++) {
            long before = bytesMade();
            x.start(k, k);
            counted("start", before);
        }
        countLink(x, "link", 262144);
        countLink(x, "a second link", 262144);
        countOtherCalls(x);
        countAddresses(x);
        x.unit(false, 0, 0, 0, 1);
        x.keep(3);
        countLink(x, "a link with a fault", -1000);
    }

    private static void countAllCalls(SymbolLinker x) {
        countUnits(x);
        countFilling(x);
    }

    /** What the constructors make, and the dearest call's making times all calls. */
    private static void whatARunMakes() {
        // The machine makes objects of its own when code runs for the first time.
        countAllCalls(new SymbolLinker());
        dearestBytes = 0;
        long before = bytesMade();
        ownBytes = bytesMade() - before;
        before = bytesMade();
        SymbolLinker x = new SymbolLinker();
        long made = bytesMade() - before - ownBytes;
        countAllCalls(x);
        long all = made + CALLS * dearestBytes;
        System.out.println("constructors: " + made + " bytes, the dearest call, " + dearestCall + ": " + dearestBytes
                + " bytes, all: " + all + " bytes");
        if (all > MOST_MADE / 4) {
            wrong++;
            System.out.println("a run makes more than a quarter of its room");
        }
    }

    private static void gather(Object o, Map<Object, Boolean> rows, Map<Object, Boolean> seen) {
        if (o == null || seen.put(o, true) != null) {
            return;
        }
        if (o.getClass().isArray()) {
            rows.put(o, true);
            for (int k = 0; o instanceof Object[] row && k < row.length; k++) {
                gather(row[k], rows, seen);
            }
            return;
        }
        if (!o.getClass().getName().startsWith("SymbolLinker")) {
            wrong++;
            System.out.println("the rows of a " + o.getClass().getName() + " can't be seen");
            return;
        }
        for (Field field : o.getClass().getDeclaredFields()) {
            if (!Modifier.isStatic(field.getModifiers()) && !field.getType().isPrimitive()) {
                field.setAccessible(true);
                try {
                    gather(field.get(o), rows, seen);
                } catch (IllegalAccessException e) {
                    due("the reading of " + field, -1, 0);
                }
            }
        }
    }

    private static Map<Object, Boolean> rowsOf(SymbolLinker x) {
        Map<Object, Boolean> rows = new IdentityHashMap<>();
        gather(x, rows, new IdentityHashMap<>());
        return rows;
    }

    /** No call puts a row of its own in an object, but for a unit's row of four sections. */
    private static void rowsStay() {
        SymbolLinker x = new SymbolLinker();
        Map<Object, Boolean> first = rowsOf(x);
        countAllCalls(x);
        for (Object row : rowsOf(x).keySet()) {
            if (Array.getLength(row) > 4 && !first.containsKey(row)) {
                wrong++;
                System.out.println("a call made a " + row.getClass().getSimpleName() + " of " + Array.getLength(row));
            }
        }
    }

    public static void main(String[] args) {
        mostSymbols();
        mostWaits();
        mostStarts();
        whatARunMakes();
        rowsStay();
        System.out.println(wrong == 0 ? "all limits hold" : wrong + " answers are not as due");
        if (wrong != 0) {
            System.exit(1);
        }
    }
}
