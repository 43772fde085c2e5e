import java.util.ArrayList;
import java.util.Arrays;
import java.util.List;
import java.util.NoSuchElementException;
import java.util.function.Consumer;

/**
 * Each sentence of the document that names a boundary case has a test of its own here: the last input that is taken
 * and the first one that is refused on each side, the ends of int and long, the empty and the full state, and that a
 * refused call changes nothing that later calls show. No object is used for more than the 512 calls that the document
 * promises; the limits that lie behind them stand in SymbolLinkerLimits.
 */
public final class SymbolLinkerBoundaries {
    private static final int NONE = -1;
    private static final int THROWN = -1000;
    private static final int BASE = 0x400000;
    private static final int PAGE = 0x1000;
    private static final int MIN = Integer.MIN_VALUE;
    private static final int MAX = Integer.MAX_VALUE;
    private static final String[] ASKED_NAMES = {"start", "f", "d", "w", "q", "late", "a", "b"};
    private static String sentence = "";
    private static int sentences = 0;
    private static int asked = 0;
    private static int wrong = 0;

    // ---- what tests are written with

    private static void holds(String words, Runnable test) {
        sentence = words;
        sentences++;
        int before = asked;
        test.run();
        // A test that asks nothing holds for every program.
        if (asked == before) {
            wrong++;
            System.out.println(sentence + ": nothing was asked");
        }
    }

    private static void due(String what, long got, long want) {
        asked++;
        if (got != want) {
            wrong++;
            System.out.println(sentence + ": " + what + " answered " + got + ", due is " + want);
        }
    }

    private static void yes(String what, boolean got) {
        due(what, got ? 1 : 0, 1);
    }

    private static void no(String what, boolean got) {
        due(what, got ? 1 : 0, 0);
    }

    /** Numbers that are not low .. high: the first ones on both sides, the ends of int, and some whose low bits are fine. */
    private static int[] outside(int low, int high) {
        int[] some = {low - 1, low - 2, MIN, MIN + 1, high + 1, high + 2, MAX, MAX - 1,
            low + 0x40000000, low + 0x1000000, low + MIN, high - 0x1000000};
        int count = 0;
        for (int number : some) {
            if (number < low || number > high) {
                some[count++] = number;
            }
        }
        return Arrays.copyOf(some, count);
    }

    /** The first and the last two numbers of low .. high. */
    private static int[] edges(int low, int high) {
        return high - low < 2 ? new int[] {low, high} : new int[] {low, low + 1, high - 1, high};
    }

    private static long word(String name) {
        long word = 0;
        for (int k = 0; k < name.length(); k++) {
            word = word << 8 | name.charAt(k);
        }
        return word;
    }

    private static int linked(SymbolLinker x) {
        try {
            return x.link();
        } catch (IllegalStateException e) {
            return THROWN;
        }
    }

    private static int addressOf(SymbolLinker x, long word, int n) {
        try {
            return x.address(word, n);
        } catch (NoSuchElementException e) {
            return THROWN;
        }
    }

    private static int addressOf(SymbolLinker x, String name) {
        return addressOf(x, word(name), name.length());
    }

    private static int symbol(SymbolLinker x, String name, int marks, int section, int place, int line) {
        return x.symbol(word(name), name.length(), marks, section, place, line);
    }

    private static int local(SymbolLinker x, String name, int section, int place) {
        return symbol(x, name, 0, section, place, 0);
    }

    private static int global(SymbolLinker x, String name, int section, int place) {
        return symbol(x, name, 1, section, place, 0);
    }

    private static int weak(SymbolLinker x, String name, int section, int place) {
        return symbol(x, name, 2, section, place, 0);
    }

    private static int missing(SymbolLinker x, String name) {
        return symbol(x, name, 0, -1, 0, 0);
    }

    private static int weaklyMissing(SymbolLinker x, String name) {
        return symbol(x, name, 2, -1, 0, 0);
    }

    /** One unit, no library, with ENTRY at the beginning of its text. */
    private static SymbolLinker withEntry(int text, int rodata, int data, int bss) {
        SymbolLinker x = new SymbolLinker();
        x.unit(false, text, rodata, data, bss);
        global(x, "start", 0, 0);
        return x;
    }

    private static SymbolLinker withUnit(int text, int rodata, int data, int bss) {
        SymbolLinker x = new SymbolLinker();
        x.unit(false, text, rodata, data, bss);
        return x;
    }

    private static void keptUnit(SymbolLinker x, int text, int rodata, int data, int bss) {
        due("a unit", x.unit(false, text, rodata, data, bss) == NONE ? NONE : 0, 0);
        int[] sizes = {text, rodata, data, bss};
        for (int section = 0; section < 4; section++) {
            if (sizes[section] > 0) {
                x.keep(section);
            }
        }
    }

    private static int[] sizesWith(int section, int size) {
        int[] sizes = new int[4];
        sizes[section] = size;
        return sizes;
    }

    private static int unitOf(SymbolLinker x, boolean library, int[] sizes) {
        return x.unit(library, sizes[0], sizes[1], sizes[2], sizes[3]);
    }

    private static void dueFault(SymbolLinker x, int kind, int line, int unit) {
        due("fault(0)", x.fault(0), kind);
        due("fault(1)", x.fault(1), line);
        due("fault(2)", x.fault(2), unit);
    }

    private static void dueLinkFault(SymbolLinker x, int kind, int line, int unit) {
        due("link()", linked(x), THROWN);
        dueFault(x, kind, line, unit);
    }

    private static void dueNeeded(SymbolLinker x, int u, int text, int rodata, int data, int bss) {
        due("needed(" + u + ", 0)", x.needed(u, 0), text);
        due("needed(" + u + ", 1)", x.needed(u, 1), rodata);
        due("needed(" + u + ", 2)", x.needed(u, 2), data);
        due("needed(" + u + ", 3)", x.needed(u, 3), bss);
    }

    private static void dueParts(SymbolLinker x, int... parts) {
        for (int what = 0; what < parts.length; what++) {
            due("part(" + what + ")", x.part(what), parts[what]);
        }
    }

    private static void dueNoImage(SymbolLinker x) {
        dueParts(x, 0, 0, 0, 0, 0, 0, 0);
        for (int i : new int[] {0, 1, -1, BASE, MIN, MAX}) {
            due("octet(" + i + ")", x.octet(i), NONE);
            due("line(" + i + ")", x.line(i), NONE);
        }
        due("address of ENTRY", addressOf(x, "start"), THROWN);
        due("address of the word 0", addressOf(x, 0, 8), THROWN);
    }

    private static void dueNoUnit(SymbolLinker x) {
        for (int section = -1; section <= 4; section++) {
            no("put", x.put(section, 0, 0, 1));
            no("keep", x.keep(section));
            due("symbol", x.symbol(1, 1, 0, section, 0, 0), NONE);
            no("await", x.await(section, 0, 4, -1, -1, 0, 0));
            due("needed", x.needed(0, section), NONE);
        }
        no("start", x.start(0, 0));
        due("needed", x.needed(-1, 0), NONE);
    }

    private static long octets(SymbolLinker x, int from, int n) {
        long v = 0;
        for (int k = n - 1; k >= 0; k--) {
            v = v << 8 | x.octet(from + k) & 255;
        }
        return v;
    }

    // ---- twins: what a refused call must not change

    /** What an object that tellTwin has told answers to all questions. */
    private static List<Long> look(SymbolLinker x) {
        List<Long> answers = new ArrayList<>();
        for (int what = 0; what < 3; what++) {
            answers.add((long) x.fault(what));
        }
        for (int what = 0; what < 7; what++) {
            answers.add((long) x.part(what));
        }
        for (int page = 0; page < 3; page++) {
            for (int i = 0; i < 34; i += 2) {
                answers.add((long) x.octet(page * PAGE + i));
            }
        }
        for (int i = 0; i < 24; i++) {
            answers.add((long) x.line(i));
        }
        for (String name : ASKED_NAMES) {
            answers.add((long) addressOf(x, name));
        }
        for (int section = 0; section < 4; section++) {
            answers.add((long) x.needed(0, section));
            answers.add((long) x.needed(1, section));
        }
        return answers;
    }

    private static void tellTwin(SymbolLinker x) {
        x.unit(false, 16, 8, 8, 8);
        x.put(0, 0, 0x1122334455667788L, 8);
        x.put(2, 0, -2, 8);
        global(x, "start", 0, 1);
        x.await(0, 4, 4, 8, missing(x, "f"), 0, 3);
        x.await(0, 8, 8, -1, local(x, "d", 2, 4), 5, 4);
        x.start(0, 1);
        x.start(4, 2);
        x.unit(true, 8, 8, 8, 8);
        x.put(0, 0, 0x0102030405060708L, 8);
        global(x, "f", 0, 2);
        weak(x, "w", 0, 4);
        x.start(2, 3);
        x.await(0, 0, 4, -1, -3, 1, 7);
        x.link();
    }

    private static List<Long> lookThroughLinks(SymbolLinker x) {
        List<Long> answers = look(x);
        answers.add((long) linked(x));
        answers.add((long) symbolOfName(x, "q"));
        answers.add(x.await(0, 4, 4, 8, symbolOfName(x, "late") - 1, 3, 9) ? 1L : 0L);
        answers.add(x.await(0, 0, 4, -1, 4, 0, 0) ? 1L : 0L);
        answers.add((long) x.unit(false, 4, 0, 0, 0));
        answers.add((long) linked(x));
        answers.addAll(look(x));
        return answers;
    }

    private static int symbolOfName(SymbolLinker x, String name) {
        return x.symbol(word(name), name.length(), 1, 1, 3, 8);
    }

    /** Tells two objects the same, one of them what must be refused besides, and asks both the same. */
    private static void changesNothing(Consumer<SymbolLinker> refused) {
        SymbolLinker plain = new SymbolLinker();
        SymbolLinker tried = new SymbolLinker();
        tellTwin(plain);
        tellTwin(tried);
        refused.accept(tried);
        List<Long> want = lookThroughLinks(plain);
        List<Long> got = lookThroughLinks(tried);
        for (int k = 0; k < want.size(); k++) {
            due("question " + k + " behind refused calls", got.get(k), want.get(k));
        }
    }

    // ---- promise 1

    private static void noUnits() {
        SymbolLinker x = new SymbolLinker();
        dueNoUnit(x);
        due("link()", linked(x), THROWN);
        due("the first unit", x.unit(false, 0, 0, 0, 0), 0);
    }

    private static void noImage() {
        SymbolLinker x = new SymbolLinker();
        dueNoImage(x);
        dueFault(x, 0, 0, NONE);
        due("link()", linked(x), THROWN);
        dueNoImage(x);
    }

    private static void newBesideAnother() {
        SymbolLinker other = withEntry(8, 8, 8, 8);
        other.start(0, 3);
        due("link of the other one", linked(other), 8);
        SymbolLinker x = new SymbolLinker();
        dueNoUnit(x);
        dueNoImage(x);
        due("link()", linked(x), THROWN);
        dueFault(other, 0, 0, NONE);
        due("the other one's image", other.part(6), 8);
        due("the other one's next unit", other.unit(false, 0, 0, 0, 0), 1);
        due("the first unit", x.unit(false, 0, 0, 0, 0), 0);
    }

    // ---- promise 2

    private static void clearOfNothing() {
        SymbolLinker x = new SymbolLinker();
        x.clear();
        x.clear();
        dueNoUnit(x);
        dueNoImage(x);
        dueFault(x, 0, 0, NONE);
        due("the first unit", x.unit(false, 0, 0, 0, 0), 0);
    }

    private static void unitsAreGone() {
        SymbolLinker x = withEntry(8, 8, 8, 8);
        x.unit(true, 8, 8, 8, 8);
        x.link();
        x.clear();
        dueNoUnit(x);
        due("needed(1, 0)", x.needed(1, 0), NONE);
        dueLinkFault(x, 1, 0, NONE);
        due("the first unit", x.unit(false, 8, 8, 8, 8), 0);
        dueNeeded(x, 0, 0, 0, 0, 0);
        due("needed(1, 0)", x.needed(1, 0), NONE);
    }

    private static void fullOfUnitsAgain() {
        SymbolLinker x = new SymbolLinker();
        for (int round = 0; round < 3; round++) {
            for (int k = 0; k < 32; k++) {
                due("unit", x.unit(k % 2 == 0, k == 0 ? 65536 : 0, k == 1 ? 65536 : 0, k < 2 ? 65536 : 0, 0), k);
            }
            due("unit 32", x.unit(false, 0, 0, 0, 0), NONE);
            x.clear();
        }
    }

    private static void bytesAreZeroAgain() {
        SymbolLinker x = withUnit(24, 24, 24, 8);
        for (int section = 0; section < 3; section++) {
            for (int place = 0; place < 24; place += 8) {
                yes("put", x.put(section, place, -1, 8));
            }
        }
        x.clear();
        keptUnit(x, 20, 20, 20, 8);
        global(x, "start", 0, 0);
        due("link()", linked(x), 2 * PAGE + 40);
        for (int page = 0; page < 3; page++) {
            due("8 bytes", octets(x, page * PAGE, 8), 0);
            due("the last bytes", octets(x, page * PAGE + 12, 8), 0);
        }
    }

    private static void symbolsAreGone() {
        SymbolLinker x = withEntry(8, 0, 0, 0);
        global(x, "g", 0, 1);
        weak(x, "w", 0, 2);
        missing(x, "m");
        x.clear();
        x.unit(false, 8, 0, 0, 0);
        due("the first number again", global(x, "g", 0, 3), 0);
        due("ENTRY again", global(x, "start", 0, 4), 1);
        no("a number of before", x.await(0, 0, 4, -1, 2, 0, 0));
        x.unit(true, 8, 0, 0, 0);
        x.keep(0);
        global(x, "m", 0, 0);
        due("link()", linked(x), 8);
        due("m of before is not missed", x.needed(1, 0), 0);
        due("g", addressOf(x, "g"), BASE + 3);
        due("ENTRY", addressOf(x, "start"), BASE + 4);
        due("w", addressOf(x, "w"), THROWN);
        yes("a number of the latest unit", x.await(0, 0, 4, -1, 0, 0, 0));
        for (int what = 1; what <= 4; what++) {
            no("a number of before, or of another unit", x.await(0, 0, 4, -1, what, 0, 0));
        }
    }

    private static void waitsStartsAndKeptAreGone() {
        SymbolLinker x = withEntry(8, 8, 8, 8);
        x.keep(1);
        x.keep(3);
        x.start(2, 5);
        x.await(0, 0, 4, -1, -4, 9, 1);
        x.await(0, 4, 4, -1, -1, 1L << 40, 1);
        x.clear();
        x.unit(false, 8, 8, 8, 8);
        global(x, "start", 0, 0);
        due("link()", linked(x), 8);
        dueNeeded(x, 0, 1, 0, 0, 0);
        due("the bytes", octets(x, 0, 8), 0);
        due("line(2)", x.line(2), NONE);
        yes("await", x.await(0, 0, 8, -1, -4, 9, 1));
        yes("start", x.start(1, 6));
        yes("keep", x.keep(3));
        due("link()", linked(x), PAGE + 24);
        dueNeeded(x, 0, 1, 0, 1, 1);
        due("the bytes", octets(x, 0, 8), BASE + PAGE + 9);
        due("line(1)", x.line(1), 6);
    }

    private static void dueStays(SymbolLinker x) {
        dueParts(x, BASE + 8, BASE + PAGE, BASE + PAGE, BASE + PAGE, BASE + PAGE + 8, BASE + 1, PAGE + 8);
        due("the text", octets(x, 0, 8), 0x0102030405060708L);
        due("the data", octets(x, PAGE, 8), 0x1112131415161718L);
        due("behind it", x.octet(PAGE + 8), NONE);
        due("ENTRY", addressOf(x, "start"), BASE + 1);
        due("d", addressOf(x, "d"), BASE + PAGE + 8);
        due("late", addressOf(x, "late"), THROWN);
        due("line(3)", x.line(3), 65535);
        due("line(4)", x.line(4), NONE);
        due("line(7)", x.line(7), 0);
    }

    private static SymbolLinker withImage() {
        SymbolLinker x = withUnit(8, 8, 8, 8);
        symbol(x, "start", 1, 0, 1, 1);
        global(x, "d", 2, 8);
        x.keep(2);
        x.put(0, 0, 0x0102030405060708L, 8);
        x.put(2, 0, 0x1112131415161718L, 8);
        x.start(3, 65535);
        x.start(7, 0);
        due("link()", linked(x), PAGE + 8);
        dueStays(x);
        return x;
    }

    private static void imageStaysAfterClear() {
        SymbolLinker x = withImage();
        x.clear();
        dueStays(x);
        dueFault(x, 0, 0, NONE);
        x.unit(false, 16, 0, 0, 0);
        global(x, "late", 0, 0);
        x.put(0, 0, -1, 8);
        x.start(4, 4);
        dueStays(x);
        dueLinkFault(x, 1, 0, NONE);
        dueStays(x);
        x.clear();
        dueStays(x);
        dueFault(x, 1, 0, NONE);
    }

    private static void faultStaysAfterClear() {
        SymbolLinker x = withEntry(8, 0, 0, 0);
        x.await(0, 0, 4, -1, missing(x, "m"), 0, 77);
        dueLinkFault(x, 3, 77, 0);
        x.clear();
        dueFault(x, 3, 77, 0);
    }

    // ---- promise 3

    private static void sizesOfSections() {
        for (int section = 0; section < 4; section++) {
            SymbolLinker x = new SymbolLinker();
            for (int size : outside(0, 65536)) {
                due("section " + section + " of " + size, unitOf(x, false, sizesWith(section, size)), NONE);
                due("section " + section + " of " + size, unitOf(x, true, sizesWith(section, size)), NONE);
            }
            for (int size : edges(0, 65536)) {
                x.clear();
                due("section " + section + " of " + size, unitOf(x, false, sizesWith(section, size)), 0);
            }
        }
    }

    private static void allSizesAtOnce() {
        SymbolLinker x = new SymbolLinker();
        for (int size : new int[] {-1, 65537, MIN, MAX, 0x40000000, 0x55555556, -0x40000000}) {
            due("all of " + size, x.unit(false, size, size, size, size), NONE);
        }
        due("sizes that come to 0", x.unit(false, MAX, 1, MIN, 0), NONE);
        due("sizes that come to 2", x.unit(false, 65536, -65536, 2, 0), NONE);
        due("all of 0", x.unit(false, 0, 0, 0, 0), 0);
        due("all of 65536", x.unit(true, 65536, 65536, 65536, 65536), 1);
    }

    private static void sizesOfAllUnits() {
        for (int section = 0; section < 3; section++) {
            SymbolLinker x = new SymbolLinker();
            due("196608", x.unit(false, 65536, 65536, 65536, 65536), 0);
            due("262143", unitOf(x, true, sizesWith(section, 65535)), 1);
            due("262145", unitOf(x, false, sizesWith(section, 2)), NONE);
            due("262144", unitOf(x, false, sizesWith(section, 1)), 2);
            for (int other = 0; other < 3; other++) {
                due("262145", unitOf(x, true, sizesWith(other, 1)), NONE);
                due("327680", unitOf(x, false, sizesWith(other, 65536)), NONE);
            }
            due("bss does not count", x.unit(false, 0, 0, 0, 65536), 3);
            due("bss does not count", x.unit(true, 0, 0, 0, 1), 4);
        }
        SymbolLinker y = new SymbolLinker();
        due("half", y.unit(false, 65536, 65535, 1, 65536), 0);
        due("one more than half", y.unit(false, 65536, 65535, 2, 0), NONE);
        due("half", y.unit(false, 1, 65536, 65535, 0), 1);
        due("one more", y.unit(false, 0, 1, 0, 0), NONE);
        SymbolLinker z = new SymbolLinker();
        for (int k = 0; k < 32; k++) {
            due("262144 bytes in 32 units", z.unit(k % 3 == 0, 4096, 2048, 2048, 65536), k);
        }
    }

    private static void countOfUnits() {
        for (int kind = 0; kind < 3; kind++) {
            SymbolLinker x = new SymbolLinker();
            for (int k = 0; k < 32; k++) {
                due("unit " + k, x.unit(kind == 0 || kind == 1 && k % 2 == 0, 0, 0, 0, k), k);
            }
            due("unit 32", x.unit(false, 0, 0, 0, 0), NONE);
            due("unit 32", x.unit(true, 1, 1, 1, 1), NONE);
            due("a place behind unit 31's bss", x.symbol(1, 1, 0, 3, 32, 0), NONE);
            due("unit 31 is the latest", x.symbol(1, 1, 0, 3, 31, 0), 0);
            no("unit 31 has no text", x.start(0, 0));
            due("needed(31, 3)", x.needed(31, 3), 0);
            due("needed(32, 3)", x.needed(32, 3), NONE);
        }
    }

    private static void fullUnitsLink() {
        SymbolLinker x = new SymbolLinker();
        for (int k = 0; k < 32; k++) {
            x.unit(false, 8, 0, 0, 0);
            x.keep(0);
            x.put(0, 7, k, 1);
            x.start(7, k);
        }
        global(x, "start", 0, 8);
        due("link()", linked(x), 31 * 16 + 8);
        for (int k = 0; k < 32; k++) {
            due("the last byte of unit " + k, x.octet(16 * k + 7), k);
            due("the line of unit " + k, x.line(16 * k + 7), 65536 * k + k);
            due("needed", x.needed(k, 0), 1);
        }
        due("ENTRY", x.part(5), BASE + 31 * 16 + 8);
    }

    private static void bytesAreZeroAtFirst() {
        SymbolLinker x = new SymbolLinker();
        keptUnit(x, 16, 16, 16, 16);
        global(x, "start", 0, 0);
        for (int section = 0; section < 3; section++) {
            x.put(section, 0, -1, 8);
            x.put(section, 8, -1, 8);
        }
        keptUnit(x, 16, 16, 16, 16);
        due("link()", linked(x), 2 * PAGE + 64);
        for (int section = 0; section < 3; section++) {
            due("the first of unit 1", octets(x, section * PAGE + 16, 8), 0);
            due("the last of unit 1", octets(x, section * PAGE + 24, 8), 0);
        }
    }

    private static void refusedUnitChangesNothing() {
        changesNothing(x -> {
            for (int section = 0; section < 4; section++) {
                for (int size : outside(0, 65536)) {
                    due("unit", unitOf(x, false, sizesWith(section, size)), NONE);
                }
            }
        });
        SymbolLinker x = withUnit(65536, 65536, 65536, 0);
        x.unit(false, 8, 65527, 0, 0);
        due("a byte too many", x.unit(false, 2, 0, 0, 0), NONE);
        due("a name of the unit before", global(x, "start", 0, 8), 0);
        yes("the unit before is the latest", x.put(0, 0, 5, 8));
        due("the last byte", x.unit(false, 1, 0, 0, 0), 2);
        no("the last unit is the latest", x.put(0, 0, 5, 2));
        due("link()", linked(x), 8);
        due("octet(0)", x.octet(0), 5);
    }

    // ---- promise 4

    private static void countOfPutBytes() {
        long v = 0x8877665544332211L;
        for (int n = 1; n <= 8; n++) {
            SymbolLinker x = withEntry(10, 0, 0, 0);
            x.put(0, 0, -1, 8);
            x.put(0, 8, -1, 2);
            yes("put of " + n, x.put(0, 1, v, n));
            x.link();
            due("the byte before", x.octet(0), 255);
            for (int k = 0; k < 8; k++) {
                due("byte " + k + " of " + n, x.octet(1 + k), k < n ? 0x11 * (k + 1) : 255);
            }
            due("the byte behind", x.octet(9), 255);
        }
        SymbolLinker y = withEntry(16, 16, 16, 0);
        for (int n : outside(1, 8)) {
            for (int section = 0; section < 3; section++) {
                no("put of " + n, y.put(section, 0, 0, n));
                no("put of " + n, y.put(section, 8, 0, n));
            }
        }
    }

    private static void putsAtTheEndsOfLong() {
        long[] numbers = {0, -1, Long.MIN_VALUE, Long.MAX_VALUE, MIN, MAX, 1L << 32, -1L << 32, 255, 256, -256};
        for (long v : numbers) {
            for (int n = 1; n <= 8; n++) {
                SymbolLinker x = withEntry(8, 0, 0, 0);
                yes("put", x.put(0, 8 - n, v, n));
                x.link();
                long mask = n == 8 ? -1 : (1L << 8 * n) - 1;
                due("the bytes of " + v, octets(x, 8 - n, n), v & mask);
                due("no others", n == 8 ? 0 : octets(x, 0, 8 - n), 0);
            }
        }
    }

    private static void putWithoutUnit() {
        SymbolLinker x = new SymbolLinker();
        no("put", x.put(0, 0, 1, 1));
        x.unit(false, 65537, 0, 0, 0);
        no("put behind a refused unit", x.put(0, 0, 1, 1));
        x.unit(false, 1, 0, 0, 0);
        yes("put", x.put(0, 0, 1, 1));
        x.clear();
        no("put behind clear", x.put(0, 0, 1, 1));
    }

    private static void putToSections() {
        SymbolLinker x = withUnit(8, 8, 8, 8);
        for (int section : outside(0, 2)) {
            no("put to section " + section, x.put(section, 0, 1, 1));
            no("put to section " + section, x.put(section, 0, 1, 8));
        }
        for (int section = 0; section < 3; section++) {
            yes("put to section " + section, x.put(section, 0, 1, 8));
        }
    }

    private static void putInSections() {
        for (int section = 0; section < 3; section++) {
            for (int n = 1; n <= 8; n++) {
                SymbolLinker x = withUnit(24, 24, 24, 24);
                for (int place : outside(0, 24 - n)) {
                    no("put of " + n + " at " + place, x.put(section, place, 1, n));
                }
                for (int place : edges(0, 24 - n)) {
                    yes("put of " + n + " at " + place, x.put(section, place, 1, n));
                }
                SymbolLinker full = new SymbolLinker();
                unitOf(full, false, sizesWith(section, n));
                yes("put of all " + n, full.put(section, 0, 1, n));
                no("put of more", n < 8 && full.put(section, 0, 1, n + 1));
                no("put behind the beginning", full.put(section, 1, 1, n));
            }
        }
    }

    private static void putInEmptyAndLargestSections() {
        for (int section = 0; section < 3; section++) {
            SymbolLinker x = new SymbolLinker();
            x.unit(false, section == 0 ? 0 : 9, section == 1 ? 0 : 9, section == 2 ? 0 : 9, 9);
            for (int n = 1; n <= 8; n++) {
                no("put to an empty section", x.put(section, 0, 1, n));
                no("put before an empty section", x.put(section, -n, 1, n));
            }
            SymbolLinker y = new SymbolLinker();
            unitOf(y, false, sizesWith(section, 65536));
            global(y, "start", section, 65536);
            yes("put at the end", y.put(section, 65528, 0x7766554433221100L, 8));
            yes("put of the last byte", y.put(section, 65535, 0x99, 1));
            no("put behind", y.put(section, 65536, 1, 1));
            no("put behind", y.put(section, 65529, 1, 8));
            due("link()", linked(y), 65536);
            due("the last bytes", octets(y, 65528, 8), 0x9966554433221100L);
        }
    }

    private static void putStaysInItsSection() {
        SymbolLinker x = new SymbolLinker();
        keptUnit(x, 8, 8, 8, 8);
        global(x, "start", 0, 0);
        for (int section = 0; section < 3; section++) {
            yes("put", x.put(section, 0, 0x1111111111111111L * (section + 1), 8));
            no("put over the end", x.put(section, 1, -1, 8));
            no("put over the end", x.put(section, 7, -1, 2));
            no("put over the beginning", x.put(section, -1, -1, 2));
        }
        keptUnit(x, 8, 8, 8, 8);
        for (int section = 0; section < 3; section++) {
            yes("put", x.put(section, 0, 0x1111111111111111L * (section + 4), 8));
            no("put to the unit before", x.put(section, -8, -1, 8));
        }
        due("link()", linked(x), 2 * PAGE + 56);
        for (int section = 0; section < 3; section++) {
            due("of unit 0", octets(x, section * PAGE, 8), 0x1111111111111111L * (section + 1));
            due("between them", octets(x, section * PAGE + 8, 8), 0);
            due("of unit 1", octets(x, section * PAGE + 16, 8), 0x1111111111111111L * (section + 4));
            due("behind them", octets(x, section * PAGE + 24, 8), 0);
        }
    }

    private static void refusedPutChangesNothing() {
        changesNothing(x -> {
            for (int section = 0; section < 3; section++) {
                for (int n : new int[] {1, 4, 8}) {
                    for (int place : outside(0, 8 - n)) {
                        no("put", x.put(section, place, -1, n));
                    }
                }
                for (int n : outside(1, 8)) {
                    no("put", x.put(section, 0, -1, n));
                }
            }
            for (int section : outside(0, 2)) {
                no("put", x.put(section, 0, -1, 8));
            }
        });
    }

    // ---- promise 5

    private static void keepOfSections() {
        SymbolLinker x = withEntry(1, 1, 1, 1);
        for (int section : outside(0, 3)) {
            no("keep(" + section + ")", x.keep(section));
        }
        x.link();
        dueNeeded(x, 0, 1, 0, 0, 0);
        for (int section = 0; section < 4; section++) {
            SymbolLinker y = withUnit(4, 4, 4, 4);
            global(y, "start", section == 0 ? 1 : 0, 0);
            yes("keep(" + section + ")", y.keep(section));
            yes("keep(" + section + ") again", y.keep(section));
            y.link();
            for (int other = 0; other < 4; other++) {
                boolean entry = other == (section == 0 ? 1 : 0);
                due("needed(0, " + other + ")", y.needed(0, other), entry || other == section ? 1 : 0);
            }
        }
    }

    private static void keepOfEmptySections() {
        SymbolLinker x = withEntry(8, 0, 0, 0);
        x.unit(false, 0, 0, 0, 0);
        for (int section = 0; section < 4; section++) {
            yes("keep(" + section + ")", x.keep(section));
        }
        x.link();
        dueNeeded(x, 0, 1, 0, 0, 0);
        dueNeeded(x, 1, 1, 1, 1, 1);
    }

    private static void keepWithoutUnit() {
        SymbolLinker x = new SymbolLinker();
        for (int section = 0; section < 4; section++) {
            no("keep(" + section + ")", x.keep(section));
        }
        x.unit(false, 0, 0, 0, -1);
        no("keep behind a refused unit", x.keep(0));
        x.unit(false, 0, 0, 0, 0);
        yes("keep", x.keep(0));
        x.clear();
        no("keep behind clear", x.keep(0));
        x.unit(false, 0, 0, 0, 0);
        global(x, "start", 3, 0);
        x.link();
        dueNeeded(x, 0, 0, 0, 0, 1);
    }

    private static void keepOfTheLatestUnit() {
        SymbolLinker x = withEntry(8, 8, 8, 8);
        x.unit(true, 8, 8, 8, 8);
        x.keep(1);
        x.unit(false, 8, 8, 8, 8);
        x.keep(2);
        x.link();
        dueNeeded(x, 0, 1, 0, 0, 0);
        dueNeeded(x, 1, 0, 0, 0, 0);
        dueNeeded(x, 2, 0, 0, 1, 0);
    }

    private static void refusedKeepChangesNothing() {
        changesNothing(x -> {
            for (int section : outside(0, 3)) {
                no("keep(" + section + ")", x.keep(section));
            }
        });
    }

    // ---- promise 6

    private static void symbolWithoutUnit() {
        SymbolLinker x = new SymbolLinker();
        due("a label", global(x, "start", 0, 0), NONE);
        due("a missing one", missing(x, "m"), NONE);
        x.unit(false, -1, 0, 0, 0);
        due("behind a refused unit", missing(x, "m"), NONE);
        x.unit(false, 0, 0, 0, 0);
        due("with a unit", missing(x, "m"), 0);
        x.clear();
        due("behind clear", missing(x, "n"), NONE);
    }

    private static void lengthsOfNames() {
        SymbolLinker x = withUnit(8, 8, 8, 8);
        long[] words = {0, 1, -1, Long.MIN_VALUE, Long.MAX_VALUE};
        for (int n : outside(1, 8)) {
            for (long word : words) {
                due("n " + n, x.symbol(word, n, 1, 0, 0, 0), NONE);
                due("n " + n, x.symbol(word, n, 0, -1, 0, 0), NONE);
            }
        }
        int number = 0;
        for (int n = 1; n <= 8; n++) {
            due("n " + n, x.symbol(0, n, 1, 0, 0, 0), number++);
            due("n " + n, x.symbol(-1, n, 1, 0, 0, 0), number++);
        }
    }

    private static void bytesOfNames() {
        SymbolLinker x = withEntry(64, 0, 0, 0);
        for (int n = 1; n <= 8; n++) {
            x.symbol(0, n, 1, 0, n, 0);
            x.symbol(-1, n, 1, 0, 8 + n, 0);
            // The highest byte of the name alone.
            x.symbol(0x80L << 8 * (n - 1), n, 1, 0, 16 + n, 0);
        }
        due("link()", linked(x), 64);
        for (int n = 1; n <= 8; n++) {
            long above = n == 8 ? 0 : -1L << 8 * n;
            due("0 bytes of " + n, addressOf(x, 0, n), BASE + n);
            due("0 bytes of " + n + " below others", addressOf(x, above, n), BASE + n);
            due("255 bytes of " + n, addressOf(x, -1, n), BASE + 8 + n);
            due("255 bytes of " + n + " below others", addressOf(x, ~above, n), BASE + 8 + n);
            due("128 first of " + n, addressOf(x, 0x80L << 8 * (n - 1) | above, n), BASE + 16 + n);
            due("64 first of " + n, addressOf(x, 0x40L << 8 * (n - 1), n), THROWN);
            due("1 last of " + n, addressOf(x, 1, n), THROWN);
        }
    }

    private static void marksOfSymbols() {
        SymbolLinker x = withUnit(8, 0, 0, 0);
        for (int marks : outside(0, 3)) {
            due("marks " + marks, x.symbol(1, 1, marks, 0, 0, 0), NONE);
            due("marks " + marks, x.symbol(1, 1, marks, -1, 0, 0), NONE);
        }
        for (int marks = 0; marks <= 3; marks++) {
            due("marks " + marks, x.symbol(1 + marks, 1, marks, 0, 0, 0), 2 * marks);
            due("marks " + marks, x.symbol(1 + marks, 2, marks, -1, 0, 0), 2 * marks + 1);
        }
    }

    private static void bothMarksAreWeak() {
        SymbolLinker x = withEntry(16, 0, 0, 0);
        int both = symbol(x, "b", 3, -1, 0, 0);
        symbol(x, "a", 3, 0, 5, 0);
        x.await(0, 0, 8, -1, both, 7, 0);
        x.unit(true, 4, 0, 0, 0);
        x.keep(0);
        global(x, "b", 0, 0);
        x.unit(false, 4, 0, 0, 0);
        symbol(x, "a", 3, 0, 2, 0);
        due("two with both marks are no fault, a missing one takes no library", linked(x), 16);
        due("needed(1, 0)", x.needed(1, 0), 0);
        due("a missing one with both is 0", octets(x, 0, 8), 7);
        due("the first label with both", addressOf(x, "a"), BASE + 5);
        x.keep(0);
        global(x, "c", 0, 0);
        x.unit(false, 4, 0, 0, 0);
        x.keep(0);
        global(x, "a", 0, 3);
        due("link()", linked(x), 36);
        due("a global label goes before", addressOf(x, "a"), BASE + 35);
    }

    private static void sectionsOfSymbols() {
        SymbolLinker x = withUnit(8, 8, 8, 8);
        for (int section : outside(-1, 3)) {
            due("section " + section, x.symbol(1, 1, 1, section, 0, 0), NONE);
        }
        for (int section = -1; section <= 3; section++) {
            due("section " + section, x.symbol(1, section + 2, 1, section, 0, 0), section + 1);
        }
    }

    private static void placesOfLabels() {
        int[] sizes = {0, 1, 7, 65536};
        for (int shift = 0; shift < 4; shift++) {
            SymbolLinker x = withUnit(sizes[shift], sizes[(shift + 1) % 4], sizes[(shift + 2) % 4], sizes[(shift + 3) % 4]);
            int number = 0;
            for (int section = 0; section < 4; section++) {
                int size = sizes[(shift + section) % 4];
                for (int place : outside(0, size)) {
                    due("place " + place + " of " + size, x.symbol(number, 2, 1, section, place, 0), NONE);
                }
                for (int place : edges(0, size)) {
                    due("place " + place + " of " + size, x.symbol(number, 2, 1, section, place, 0), number++);
                }
            }
        }
    }

    private static void labelsAtTheEnd() {
        SymbolLinker x = new SymbolLinker();
        keptUnit(x, 7, 6, 5, 4);
        global(x, "start", 0, 7);
        global(x, "b", 1, 6);
        global(x, "c", 2, 5);
        global(x, "d", 3, 4);
        due("link()", linked(x), 2 * PAGE + 20);
        due("ENTRY", x.part(5), BASE + 7);
        due("a", addressOf(x, "start"), BASE + 7);
        due("b", addressOf(x, "b"), BASE + PAGE + 6);
        due("c", addressOf(x, "c"), BASE + 2 * PAGE + 5);
        due("d", addressOf(x, "d"), BASE + 2 * PAGE + 20);
    }

    private static void linesOfSymbols() {
        SymbolLinker x = withUnit(8, 0, 0, 0);
        int number = 0;
        for (int line : outside(0, 65535)) {
            due("line " + line + " of a label", x.symbol(1, 1, 1, 0, 0, line), NONE);
            due("line " + line + " of a missing one", x.symbol(1, 1, 0, -1, 0, line), NONE);
        }
        for (int line : edges(0, 65535)) {
            due("line " + line + " of a label", x.symbol(number, 1, 1, 0, 0, line), number++);
            due("line " + line + " of a missing one", x.symbol(number, 1, 0, -1, 0, line), number++);
        }
    }

    private static void namesOfAUnit() {
        SymbolLinker x = withUnit(8, 8, 8, 8);
        due("a name", x.symbol(0x61, 1, 0, 0, 0, 0), 0);
        for (int marks = 0; marks <= 3; marks++) {
            for (int section = -1; section <= 3; section++) {
                due("the name again", x.symbol(0x61, 1, marks, section, 1, 1), NONE);
            }
        }
        due("the name below other bytes", x.symbol(0x161, 1, 1, 0, 0, 0), NONE);
        due("the name below other bytes", x.symbol(-256 + 0x61, 1, 1, 0, 0, 0), NONE);
        for (int n = 2; n <= 8; n++) {
            due("the name behind zeros", x.symbol(0x61, n, 1, 0, 0, 0), n - 1);
            due("this name again", x.symbol(0x61, n, 1, 0, 0, 0), NONE);
        }
        due("a missing one", x.symbol(0x62, 1, 0, -1, 0, 0), 8);
        due("the name of a missing one", x.symbol(0x62, 1, 1, 0, 0, 0), NONE);
        due("the first name still", x.symbol(0x61, 1, 1, 0, 0, 0), NONE);
        x.unit(false, 8, 0, 0, 0);
        due("the name in another unit", x.symbol(0x61, 1, 1, 0, 0, 0), 0);
        due("the name again there", x.symbol(0x61, 1, 0, -1, 0, 0), NONE);
        due("the missing one's name there", x.symbol(0x62, 1, 1, 0, 0, 0), 1);
    }

    private static void refusedNamesAreFree() {
        SymbolLinker x = withUnit(8, 8, 8, 8);
        due("line 65536", x.symbol(0x61, 1, 1, 0, 0, 65536), NONE);
        due("place 9", x.symbol(0x61, 1, 1, 0, 9, 0), NONE);
        due("marks 4", x.symbol(0x61, 1, 4, 0, 0, 0), NONE);
        due("section 4", x.symbol(0x61, 1, 1, 4, 0, 0), NONE);
        no("no symbol has number 0", x.await(0, 0, 4, -1, 0, 0, 0));
        due("the name at last", x.symbol(0x61, 1, 1, 0, 0, 0), 0);
        yes("a symbol has number 0", x.await(0, 0, 4, -1, 0, 0, 0));
        no("no symbol has number 1", x.await(0, 0, 4, -1, 1, 0, 0));
    }

    private static void refusedSymbolChangesNothing() {
        changesNothing(x -> {
            for (int n : outside(1, 8)) {
                due("n " + n, x.symbol(word("q"), n, 1, 0, 0, 0), NONE);
            }
            for (int marks : outside(0, 3)) {
                due("marks " + marks, x.symbol(word("q"), 1, marks, 0, 0, 0), NONE);
            }
            for (int section : outside(-1, 3)) {
                due("section " + section, x.symbol(word("late"), 4, 1, section, 0, 0), NONE);
            }
            for (int place : outside(0, 8)) {
                due("place " + place, x.symbol(word("late"), 4, 1, 0, place, 0), NONE);
            }
            for (int line : outside(0, 65535)) {
                due("line " + line, x.symbol(word("a"), 1, 1, 0, 0, line), NONE);
                due("line " + line, x.symbol(word("b"), 1, 0, -1, 0, line), NONE);
            }
            due("a name again", global(x, "f", 0, 7), NONE);
            due("a name again", missing(x, "w"), NONE);
        });
    }

    // ---- promise 7

    private static void awaitWithoutUnit() {
        SymbolLinker x = new SymbolLinker();
        no("await", x.await(0, 0, 4, -1, -1, 0, 0));
        no("await", x.await(0, 0, 8, -1, -2, 0, 0));
        x.unit(false, 0, 65537, 0, 0);
        no("behind a refused unit", x.await(0, 0, 4, -1, -1, 0, 0));
        x.unit(false, 4, 0, 0, 0);
        yes("with a unit", x.await(0, 0, 4, -1, -1, 0, 0));
        x.clear();
        no("behind clear", x.await(0, 0, 4, -1, -1, 0, 0));
    }

    private static void sectionsThatWait() {
        SymbolLinker x = withUnit(8, 8, 8, 8);
        for (int section : outside(0, 2)) {
            no("4 of section " + section, x.await(section, 0, 4, -1, -1, 0, 0));
            no("8 of section " + section, x.await(section, 0, 8, -1, -1, 0, 0));
        }
        for (int section = 0; section < 3; section++) {
            yes("4 of section " + section, x.await(section, 0, 4, -1, -1, 0, 0));
            yes("8 of section " + section, x.await(section, 0, 8, -1, -1, 0, 0));
        }
    }

    private static void sizesThatWait() {
        SymbolLinker x = withUnit(65536, 16, 16, 16);
        for (int size : new int[] {MIN, -8, -4, -1, 0, 1, 2, 3, 5, 6, 7, 9, 12, 16, 32, 0x100004, 0x40000008, MIN + 4, MAX}) {
            for (int section = 0; section < 3; section++) {
                no("size " + size, x.await(section, 8, size, -1, -1, 0, 0));
            }
        }
        yes("size 4", x.await(0, 8, 4, -1, -1, 0, 0));
        yes("size 8", x.await(0, 8, 8, -1, -1, 0, 0));
    }

    private static void placesThatWait() {
        for (int section = 0; section < 3; section++) {
            for (int size = 4; size <= 8; size += 4) {
                for (int all : new int[] {size, size + 1, 24, 65536}) {
                    SymbolLinker x = new SymbolLinker();
                    unitOf(x, false, sizesWith(section, all));
                    for (int place : outside(0, all - size)) {
                        no(size + " of " + all + " at " + place, x.await(section, place, size, -1, -1, 0, 0));
                    }
                    for (int place : edges(0, all - size)) {
                        yes(size + " of " + all + " at " + place, x.await(section, place, size, -1, -1, 0, 0));
                    }
                }
                for (int all = 0; all < size; all++) {
                    SymbolLinker x = new SymbolLinker();
                    unitOf(x, false, sizesWith(section, all));
                    no(size + " of " + all, x.await(section, 0, size, -1, -1, 0, 0));
                    no(size + " of " + all, x.await(section, all - size, size, -1, -1, 0, 0));
                }
            }
        }
    }

    private static void placesOfNext() {
        int[] sizes = {8, 9, 10};
        SymbolLinker x = withUnit(8, 9, 10, 65536);
        for (int section = 0; section < 3; section++) {
            for (int next : outside(-1, sizes[section])) {
                no("next " + next, x.await(section, 0, 4, next, -1, 0, 0));
                no("next " + next, x.await(section, 0, 8, next, -2, 0, 0));
            }
            for (int next : edges(-1, sizes[section])) {
                yes("next " + next, x.await(section, 0, 4, next, -1, 0, 0));
                yes("next " + next, x.await(section, 0, 8, next, -2, 0, 0));
            }
        }
    }

    private static void whatIsAwaited() {
        SymbolLinker x = withUnit(8, 0, 0, 0);
        for (int what : outside(-5, -1)) {
            no("what " + what + " without symbols", x.await(0, 0, 4, -1, what, 0, 0));
        }
        for (int what = -5; what <= -1; what++) {
            yes("what " + what, x.await(0, 0, 4, -1, what, 0, 0));
        }
        for (int count = 1; count <= 3; count++) {
            x.symbol(count, 1, 0, count == 2 ? -1 : 0, 0, 0);
            for (int what : outside(-5, count - 1)) {
                no("what " + what + " of " + count, x.await(0, 0, 4, -1, what, 0, 0));
            }
            for (int what = -5; what < count; what++) {
                yes("what " + what + " of " + count, x.await(0, 0, 4, -1, what, 0, 0));
            }
        }
        x.unit(false, 8, 0, 0, 0);
        for (int what = 0; what < 3; what++) {
            no("a symbol of another unit", x.await(0, 0, 4, -1, what, 0, 0));
        }
        x.symbol(1, 1, 0, 0, 0, 0);
        yes("the symbol of this unit", x.await(0, 0, 4, -1, 0, 0, 0));
        no("a symbol of another unit", x.await(0, 0, 4, -1, 1, 0, 0));
    }

    private static void whatIsASection() {
        SymbolLinker x = new SymbolLinker();
        keptUnit(x, 33, 1, 1, 1);
        x.unit(false, 64, 8, 8, 8);
        global(x, "start", 0, 0);
        for (int section = 0; section < 4; section++) {
            yes("await", x.await(0, 8 * section, 8, -1, -2 - section, 3, 0));
        }
        due("link()", linked(x), 2 * PAGE + 56);
        due("its text", octets(x, 48, 8), BASE + 48 + 3);
        due("its rodata", octets(x, 56, 8), BASE + PAGE + 16 + 3);
        due("its data", octets(x, 64, 8), BASE + 2 * PAGE + 16 + 3);
        due("its bss", octets(x, 72, 8), BASE + 2 * PAGE + 48 + 3);
        dueNeeded(x, 1, 1, 1, 1, 1);
    }

    private static void linesThatWait() {
        SymbolLinker x = withUnit(8, 0, 0, 0);
        for (int line : outside(0, 65535)) {
            no("line " + line, x.await(0, 0, 4, -1, -1, 0, line));
        }
        for (int line : edges(0, 65535)) {
            yes("line " + line, x.await(0, 0, 4, -1, -1, 0, line));
        }
    }

    private static void numbersThatWait() {
        for (long v : new long[] {0, 1, -1, MIN, MAX, Long.MIN_VALUE, Long.MAX_VALUE, 1L << 31, 1L << 32}) {
            SymbolLinker x = withEntry(16, 0, 0, 0);
            yes("8 bytes of " + v, x.await(0, 0, 8, -1, -1, v, 0));
            due("link()", linked(x), 16);
            due("8 bytes of " + v, octets(x, 0, 8), v);
            yes("4 bytes of " + v, x.await(0, 8, 4, -1, -1, v, 0));
        }
    }

    private static void refusedAwaitChangesNothing() {
        changesNothing(x -> {
            for (int section : outside(0, 2)) {
                no("section " + section, x.await(section, 0, 4, -1, -1, -1, 0));
            }
            for (int size : new int[] {0, 3, 5, 7, -4}) {
                no("size " + size, x.await(0, 0, size, -1, -1, -1, 0));
            }
            for (int place : outside(0, 4)) {
                no("place " + place, x.await(0, place, 4, -1, -1, 1L << 40, 0));
            }
            for (int next : outside(-1, 8)) {
                no("next " + next, x.await(0, 0, 4, next, -1, 1L << 40, 0));
            }
            for (int what : outside(-5, 1)) {
                no("what " + what, x.await(0, 0, 4, -1, what, 1L << 40, 0));
            }
            for (int line : outside(0, 65535)) {
                no("line " + line, x.await(0, 4, 4, -1, -4, 1L << 40, line));
            }
        });
    }

    // ---- promise 8

    private static void startWithoutUnit() {
        SymbolLinker x = new SymbolLinker();
        no("start", x.start(0, 0));
        x.unit(false, 8, 0, 65537, 0);
        no("behind a refused unit", x.start(0, 0));
        x.unit(false, 1, 0, 0, 0);
        yes("with a unit", x.start(0, 0));
        x.clear();
        no("behind clear", x.start(0, 0));
    }

    private static void placesOfStarts() {
        for (int size : new int[] {1, 2, 16, 65536}) {
            SymbolLinker x = withUnit(size, 65536, 65536, 65536);
            for (int place : outside(0, size - 1)) {
                no("start at " + place + " of " + size, x.start(place, 0));
            }
            for (int place : edges(0, size - 1)) {
                yes("start at " + place + " of " + size, x.start(place, 0));
            }
        }
        SymbolLinker empty = withUnit(0, 8, 8, 8);
        for (int place : new int[] {-1, 0, 1, MIN, MAX}) {
            no("start at " + place + " of nothing", empty.start(place, 0));
        }
        SymbolLinker x = withUnit(8, 0, 0, 0);
        x.unit(false, 4, 0, 0, 0);
        yes("the last of the latest unit", x.start(3, 0));
        no("one of an earlier unit", x.start(4, 0));
    }

    private static void linesOfStarts() {
        for (int line : edges(0, 65535)) {
            SymbolLinker x = withEntry(8, 0, 0, 0);
            yes("line " + line, x.start(2, line));
            for (int bad : outside(0, 65535)) {
                no("line " + bad, x.start(2, bad));
                no("line " + bad, x.start(3, bad));
            }
            x.link();
            due("line(2)", x.line(2), line);
            due("line(3)", x.line(3), NONE);
        }
    }

    private static void latestStartCounts() {
        SymbolLinker x = withEntry(8, 0, 0, 0);
        int[] lines = {9, 65535, 0, 4};
        for (int line : lines) {
            yes("start", x.start(0, line));
            yes("start", x.start(7, 65535 - line));
            x.link();
            due("line(0)", x.line(0), line);
            due("line(7)", x.line(7), 65535 - line);
        }
        x.start(0, 5);
        due("not before the next link", x.line(0), 4);
    }

    private static void refusedStartChangesNothing() {
        changesNothing(x -> {
            for (int place : outside(0, 7)) {
                no("place " + place, x.start(place, 9));
            }
            for (int line : outside(0, 65535)) {
                no("line " + line, x.start(2, line));
                no("line " + line, x.start(5, line));
            }
        });
    }

    // ---- promise 9: which units are taken, what names mean, what is needed

    private static void librariesNobodyMisses() {
        SymbolLinker x = new SymbolLinker();
        due("no unit", linked(x), THROWN);
        x.unit(true, 8, 0, 0, 0);
        x.keep(0);
        global(x, "start", 0, 0);
        dueLinkFault(x, 1, 0, NONE);
        x.unit(false, 0, 0, 0, 0);
        dueLinkFault(x, 1, 0, NONE);
        symbol(x, "start", 2, -1, 0, 0);
        dueLinkFault(x, 1, 0, NONE);
        x.unit(false, 0, 0, 0, 0);
        symbol(x, "start", 3, -1, 0, 0);
        dueLinkFault(x, 1, 0, NONE);
        x.unit(false, 0, 0, 0, 0);
        symbol(x, "start", 1, -1, 0, 0);
        due("ENTRY is missed", linked(x), 8);
        dueNeeded(x, 0, 1, 0, 0, 0);
    }

    private static void whoMisses(int marks, boolean taken) {
        SymbolLinker x = withEntry(8, 0, 0, 0);
        symbol(x, "a", marks, -1, 0, 0);
        x.unit(true, 4, 0, 0, 0);
        x.keep(0);
        global(x, "a", 0, 0);
        due("link()", linked(x), taken ? 20 : 8);
        due("missing with marks " + marks, x.needed(1, 0), taken ? 1 : 0);
    }

    private static void whoHas(int marks, boolean taken) {
        SymbolLinker x = withEntry(8, 0, 0, 0);
        missing(x, "a");
        x.unit(true, 4, 0, 0, 0);
        x.keep(0);
        symbol(x, "a", marks, 0, 4, 0);
        due("link()", linked(x), taken ? 20 : 8);
        due("a label with marks " + marks, x.needed(1, 0), taken ? 1 : 0);
        due("a missing one is none", missingIn(marks), 0);
    }

    private static int missingIn(int marks) {
        SymbolLinker x = withEntry(8, 0, 0, 0);
        missing(x, "a");
        x.unit(true, 4, 0, 0, 0);
        x.keep(0);
        symbol(x, "a", marks, -1, 0, 0);
        x.link();
        return x.needed(1, 0);
    }

    private static void whoHasItAlready(int marks, boolean taken) {
        SymbolLinker x = withEntry(8, 0, 0, 0);
        missing(x, "a");
        x.unit(true, 4, 0, 0, 0);
        x.keep(0);
        global(x, "a", 0, 0);
        x.unit(false, 4, 0, 0, 0);
        symbol(x, "a", marks, 0, 0, 0);
        due("link()", linked(x), taken ? 20 : 8);
        due("had with marks " + marks, x.needed(1, 0), taken ? 1 : 0);
    }

    private static void marksOfLibraries() {
        whoMisses(0, true);
        whoMisses(1, true);
        whoMisses(2, false);
        whoMisses(3, false);
        whoHas(0, false);
        whoHas(1, true);
        whoHas(2, true);
        whoHas(3, true);
        whoHasItAlready(1, false);
        whoHasItAlready(2, false);
        whoHasItAlready(3, false);
    }

    private static void labelsAreNotMissed() {
        for (int marks = 0; marks <= 3; marks++) {
            SymbolLinker x = withEntry(8, 0, 0, 0);
            x.await(0, 0, 8, -1, symbol(x, "a", marks, 0, 5, 0), 0, 0);
            x.unit(true, 4, 0, 0, 0);
            x.keep(0);
            global(x, "a", 0, 0);
            due("link() with a label of marks " + marks, linked(x), 8);
            dueNeeded(x, 1, 0, 0, 0, 0);
            due("its value", octets(x, 0, 8), BASE + 5);
        }
    }

    /** A library that an earlier link took, and a later one does not. */
    private static void librariesOfEarlierLinks() {
        SymbolLinker x = new SymbolLinker();
        x.unit(true, 8, 0, 0, 0);
        x.keep(0);
        global(x, "a", 0, 1);
        weak(x, "w", 0, 2);
        missing(x, "b");
        x.start(3, 9);
        x.unit(true, 8, 0, 0, 0);
        x.keep(0);
        global(x, "b", 0, 3);
        x.unit(false, 8, 0, 0, 0);
        missing(x, "a");
        global(x, "start", 0, 0);
        due("both are taken", linked(x), 40);
        dueNeeded(x, 0, 1, 0, 0, 0);
        dueNeeded(x, 1, 1, 0, 0, 0);
        due("a", addressOf(x, "a"), BASE + 1);
        due("w", addressOf(x, "w"), BASE + 2);
        due("b", addressOf(x, "b"), BASE + 16 + 3);
        due("line(3)", x.line(3), 9);
        x.unit(false, 8, 0, 0, 0);
        x.keep(0);
        weak(x, "a", 0, 6);
        weak(x, "w", 0, 7);
        due("none is taken", linked(x), 24);
        dueNeeded(x, 0, 0, 0, 0, 0);
        dueNeeded(x, 1, 0, 0, 0, 0);
        due("a", addressOf(x, "a"), BASE + 16 + 6);
        due("w", addressOf(x, "w"), BASE + 16 + 7);
        due("b", addressOf(x, "b"), THROWN);
        due("line(3)", x.line(3), NONE);
        x.unit(false, 8, 0, 0, 0);
        missing(x, "b");
        due("the second is taken", linked(x), 40);
        dueNeeded(x, 0, 0, 0, 0, 0);
        dueNeeded(x, 1, 1, 0, 0, 0);
        due("b", addressOf(x, "b"), BASE + 3);
    }

    private static void untakenUnitsMissAndHaveNothing() {
        SymbolLinker x = withEntry(8, 0, 0, 0);
        x.unit(true, 4, 0, 0, 0);
        missing(x, "a");
        global(x, "b", 0, 0);
        x.keep(0);
        x.unit(true, 4, 0, 0, 0);
        global(x, "a", 0, 0);
        missing(x, "b");
        x.keep(0);
        due("two that miss one another", linked(x), 8);
        x.unit(false, 0, 0, 0, 0);
        missing(x, "b");
        due("one of them is missed", linked(x), 36);
        dueNeeded(x, 1, 1, 0, 0, 0);
        dueNeeded(x, 2, 1, 0, 0, 0);
    }

    private static void fullChainOfLibraries() {
        SymbolLinker x = new SymbolLinker();
        for (int k = 0; k < 31; k++) {
            x.unit(true, 4, 0, 0, 0);
            x.keep(0);
            x.symbol(1000 + k, 2, 1 + k % 2, 0, 0, 0);
            x.symbol(999 + k, 2, 0, -1, 0, 0);
        }
        x.unit(false, 4, 0, 0, 0);
        global(x, "start", 0, 0);
        x.symbol(1030, 2, 0, -1, 0, 0);
        due("the last misses the one before, and so on", linked(x), 31 * 16 + 4);
        for (int k = 0; k < 32; k++) {
            due("needed(" + k + ", 0)", x.needed(k, 0), 1);
            due("address", addressOf(x, 1000 + k, 2), k < 31 ? BASE + 16 * k : THROWN);
        }
    }

    private static void theFirstLibraryAgain() {
        SymbolLinker x = withEntry(4, 0, 0, 0);
        missing(x, "b");
        x.unit(true, 4, 0, 0, 0);
        x.keep(0);
        global(x, "c", 0, 0);
        x.unit(true, 4, 0, 0, 0);
        x.keep(0);
        global(x, "b", 0, 0);
        missing(x, "c");
        x.unit(true, 4, 0, 0, 0);
        x.keep(0);
        global(x, "b", 0, 0);
        global(x, "c", 0, 0);
        due("link()", linked(x), 36);
        dueNeeded(x, 1, 1, 0, 0, 0);
        dueNeeded(x, 2, 1, 0, 0, 0);
        dueNeeded(x, 3, 0, 0, 0, 0);
    }

    /**
     * What a text gets that waits for the name "a" with these marks and this section, beside labels of other units:
     * local, weak, global, or global in a unit that is not taken.
     */
    private static long meaningOf(int marks, int section, String others) {
        SymbolLinker x = withEntry(16, 0, 0, 0);
        x.await(0, 0, 8, -1, symbol(x, "a", marks, section, 9, 0), 0, 5);
        for (int k = 0; k < others.length(); k++) {
            char other = others.charAt(k);
            x.unit(other == 'u', 16, 0, 0, 0);
            x.keep(0);
            symbol(x, "a", other == 'l' ? 0 : other == 'w' ? 2 : 1, 0, k + 1, 0);
        }
        return linked(x) == THROWN ? THROWN - x.fault(0) : octets(x, 0, 8);
    }

    private static void meaningsOfSymbols() {
        int first = BASE + 16 + 1;
        int second = BASE + 32 + 2;
        due("a local label", meaningOf(0, 0, "gw"), BASE + 9);
        due("a global label", meaningOf(1, 0, "wl"), BASE + 9);
        due("a weak label alone", meaningOf(2, 0, ""), BASE + 9);
        due("a weak label and a local one", meaningOf(2, 0, "l"), BASE + 9);
        due("a weak label before a weak one", meaningOf(2, 0, "w"), BASE + 9);
        due("a weak label and a global one", meaningOf(2, 0, "wg"), second);
        due("a label with both marks and a global one", meaningOf(3, 0, "g"), first);
        due("a missing one and nothing", meaningOf(0, -1, ""), THROWN - 3);
        due("a missing one and a local one", meaningOf(0, -1, "l"), THROWN - 3);
        due("a missing one and a weak one", meaningOf(0, -1, "lw"), second);
        due("a missing one and two weak ones", meaningOf(0, -1, "ww"), first);
        due("a missing one, a weak and a global one", meaningOf(0, -1, "wg"), second);
        due("a missing one, global, and nothing", meaningOf(1, -1, ""), THROWN - 3);
        due("a missing one, global, and a global one", meaningOf(1, -1, "g"), first);
        due("a missing one, weak, and nothing", meaningOf(2, -1, ""), 0);
        due("a missing one, weak, and a local one", meaningOf(2, -1, "l"), 0);
        due("a missing one, weak, and a unit not taken", meaningOf(2, -1, "u"), 0);
        due("a missing one, weak, and a weak one", meaningOf(2, -1, "w"), first);
        due("a missing one, with both marks, and nothing", meaningOf(3, -1, ""), 0);
        due("a missing one, with both marks, and a global one", meaningOf(3, -1, "wg"), second);
    }

    private static void earlierWeakLabels() {
        SymbolLinker x = new SymbolLinker();
        x.unit(false, 16, 16, 0, 0);
        weak(x, "w", 1, 3);
        x.unit(false, 16, 0, 0, 0);
        global(x, "start", 0, 0);
        x.await(0, 0, 8, -1, weak(x, "w", 0, 5), 0, 0);
        x.await(0, 8, 8, -1, missing(x, "v"), 0, 0);
        x.unit(false, 16, 0, 0, 0);
        weak(x, "v", 0, 7);
        due("link()", linked(x), PAGE + 16);
        due("the first weak one, not its own", octets(x, 0, 8), BASE + PAGE + 3);
        due("the weak one of a later unit", octets(x, 8, 8), BASE + 16 + 7);
        dueNeeded(x, 0, 0, 1, 0, 0);
        dueNeeded(x, 1, 1, 0, 0, 0);
        dueNeeded(x, 2, 1, 0, 0, 0);
    }

    private static void labelsOfEmptySections() {
        for (int marks = 1; marks <= 2; marks++) {
            for (int section = 0; section < 4; section++) {
                SymbolLinker x = withEntry(8, 0, 0, 0);
                x.await(0, 0, 8, -1, missing(x, "e"), 0, 0);
                x.unit(true, 0, 0, 0, 0);
                symbol(x, "e", marks, section, 0, 0);
                int at = section == 0 ? 16 : PAGE;
                due("link()", linked(x), at);
                due("its value", octets(x, 0, 8), BASE + at);
                due("its address", addressOf(x, "e"), BASE + at);
                for (int other = 0; other < 4; other++) {
                    due("needed(1, " + other + ")", x.needed(1, other), other == section ? 1 : 0);
                }
            }
        }
    }

    private static void addressZero() {
        SymbolLinker x = withEntry(32, 8, 8, 8);
        int nothing = weaklyMissing(x, "w");
        x.await(0, 0, 8, -1, nothing, 0, 0);
        x.await(0, 8, 4, -1, nothing, MIN, 0);
        x.await(0, 12, 4, -1, nothing, MAX, 0);
        x.await(0, 16, 8, 32, nothing, 0, 0);
        due("link()", linked(x), 32);
        due("8 bytes", octets(x, 0, 8), 0);
        due("the least", octets(x, 8, 4), 0x80000000L);
        due("the largest", octets(x, 12, 4), 0x7FFFFFFFL);
        due("less the next", octets(x, 16, 8), -(BASE + 32));
        dueNeeded(x, 0, 1, 0, 0, 0);
    }

    private static void fullChainOfSections() {
        SymbolLinker x = new SymbolLinker();
        for (int k = 0; k < 32; k++) {
            x.unit(false, 8, 8, 8, 1);
            x.symbol(k, 2, 1, 0, 8, 0);
            if (k > 0) {
                x.await(2, 0, 8, -1, x.symbol(k - 1, 2, 0, -1, 0, 0), 0, 0);
            } else {
                x.await(2, 0, 8, -1, -5, 0, 0);
            }
            x.await(1, 0, 8, -1, -4, 0, 0);
            x.await(0, 0, 8, -1, -3, 0, 0);
        }
        global(x, "start", 0, 0);
        due("link()", linked(x), 2 * PAGE + 31 * 16 + 16 + 1);
        for (int k = 0; k < 32; k++) {
            dueNeeded(x, k, 1, 1, 1, k == 0 ? 1 : 0);
        }
    }

    private static void leftOutSectionsNeedNothing() {
        SymbolLinker x = withEntry(8, 8, 8, 8);
        x.await(1, 0, 4, -1, -4, 0, 0);
        x.await(2, 0, 4, -1, -3, 0, 0);
        x.unit(true, 8, 8, 0, 0);
        x.keep(0);
        x.await(0, 0, 4, -1, -3, 0, 0);
        due("link()", linked(x), 8);
        dueNeeded(x, 0, 1, 0, 0, 0);
        dueNeeded(x, 1, 0, 0, 0, 0);
        x.unit(false, 8, 8, 8, 8);
        x.keep(0);
        x.await(0, 0, 4, 8, -2, 0, 0);
        x.await(0, 4, 4, 0, -1, 0, 0);
        due("waits for itself, and for a number", linked(x), 24);
        dueNeeded(x, 2, 1, 0, 0, 0);
    }

    private static void entryInEachSection() {
        for (int section = 0; section < 4; section++) {
            SymbolLinker x = withUnit(3, 3, 3, 3);
            global(x, "start", section, 3);
            due("link()", linked(x), 3);
            due("ENTRY", x.part(5), BASE + 3);
            for (int other = 0; other < 4; other++) {
                due("needed(0, " + other + ")", x.needed(0, other), other == section ? 1 : 0);
            }
        }
        SymbolLinker y = new SymbolLinker();
        y.unit(false, 8, 0, 0, 0);
        symbol(y, "start", 0, 0, 0, 0);
        y.unit(false, 8, 0, 0, 0);
        symbol(y, "start", 2, 0, 0, 0);
        y.unit(false, 8, 0, 0, 0);
        symbol(y, "start", 1, 0, 5, 0);
        due("the global one", linked(y), 8);
        dueNeeded(y, 2, 1, 0, 0, 0);
        dueNeeded(y, 1, 0, 0, 0, 0);
        due("ENTRY", y.part(5), BASE + 5);
    }

    // ---- promise 9: where things stand

    private static void sizeToTheEndOfTheLastSection() {
        for (int size : new int[] {0, 1, 15, 16, 17, 4095, 4096, 4097, 65535, 65536}) {
            for (int section = 0; section < 4; section++) {
                SymbolLinker x = new SymbolLinker();
                unitOf(x, false, sizesWith(section, size));
                global(x, "start", section, size);
                due("link() of section " + section + " of " + size, linked(x), size);
                due("part(6)", x.part(6), size);
                due("part(5)", x.part(5), BASE + size);
                due("its last byte", x.octet(size - 1), size == 0 ? NONE : 0);
                due("behind it", x.octet(size), NONE);
            }
        }
    }

    private static void emptyImage() {
        SymbolLinker x = withUnit(0, 0, 0, 0);
        global(x, "start", 0, 0);
        due("link()", linked(x), 0);
        dueParts(x, BASE, BASE, BASE, BASE, BASE, BASE, 0);
        due("octet(0)", x.octet(0), NONE);
        due("line(0)", x.line(0), NONE);
        due("ENTRY", addressOf(x, "start"), BASE);
        dueNeeded(x, 0, 1, 0, 0, 0);
        dueFault(x, 0, 0, NONE);
    }

    private static int upTo(int number, int step) {
        int up = number;
        while (up % step != 0) {
            up++;
        }
        return up;
    }

    private static void sectionsAtMultiplesOf16() {
        for (int section = 0; section < 4; section++) {
            for (int size : new int[] {0, 1, 2, 15, 16, 17, 31, 32, 33}) {
                SymbolLinker x = new SymbolLinker();
                x.unit(false, 0, 0, 0, 0);
                for (int k = 0; k < 3; k++) {
                    unitOf(x, false, sizesWith(section, k == 1 ? 1 : size));
                    x.keep(section);
                    x.symbol(k, 2, 1, section, 0, 0);
                }
                global(x, "start", section, 0);
                int second = BASE + upTo(size, 16);
                int third = upTo(second + 1, 16);
                due("link()", linked(x), third + size - BASE);
                due("the first", addressOf(x, 0, 2), BASE);
                due("the second", addressOf(x, 1, 2), second);
                due("the third", addressOf(x, 2, 2), third);
            }
        }
    }

    private static void partsAtMultiplesOf4096() {
        for (int text : new int[] {0, 1, 4095, 4096, 4097, 8192}) {
            for (int rodata : new int[] {0, 1, 4095, 4096, 4097}) {
                SymbolLinker x = withEntry(text, rodata, 5, 0);
                x.keep(1);
                x.keep(2);
                int atRodata = upTo(BASE + text, 4096);
                int atData = upTo(atRodata + rodata, 4096);
                due("link()", linked(x), atData + 5 - BASE);
                dueParts(x, BASE + text, atRodata, atRodata + rodata, atData, atData + 5, BASE, atData + 5 - BASE);
            }
        }
    }

    private static void bssAtMultiplesOf16() {
        for (int data : new int[] {0, 1, 15, 16, 17, 4095, 4096}) {
            for (int bss : new int[] {0, 1, 16, 65536}) {
                SymbolLinker x = withEntry(1, 0, data, bss);
                x.keep(2);
                x.keep(3);
                global(x, "b", 3, 0);
                int atBss = upTo(BASE + PAGE + data, 16);
                due("link()", linked(x), atBss + bss - BASE);
                due("bss", addressOf(x, "b"), atBss);
                due("its end", x.part(4), atBss + bss);
            }
        }
    }

    private static void partsWithoutSections() {
        int none = BASE + PAGE;
        SymbolLinker text = withEntry(20, 8, 8, 8);
        due("text alone", linked(text), 20);
        dueParts(text, BASE + 20, none, none, none, none, BASE, 20);
        SymbolLinker page = withEntry(4096, 8, 8, 8);
        due("a page of text alone", linked(page), 4096);
        dueParts(page, none, none, none, none, none, BASE, 4096);
        SymbolLinker rodata = withUnit(8, 20, 8, 8);
        global(rodata, "start", 1, 0);
        due("rodata alone", linked(rodata), 20);
        dueParts(rodata, BASE, BASE, BASE + 20, none, none, BASE, 20);
        SymbolLinker data = withUnit(8, 8, 21, 8);
        global(data, "start", 2, 0);
        due("data alone", linked(data), 21);
        dueParts(data, BASE, BASE, BASE, BASE, BASE + 21, BASE, 21);
        SymbolLinker bss = withUnit(8, 8, 8, 22);
        global(bss, "start", 3, 0);
        due("bss alone", linked(bss), 22);
        dueParts(bss, BASE, BASE, BASE, BASE, BASE + 22, BASE, 22);
    }

    private static void pairsOfParts() {
        SymbolLinker x = withEntry(20, 0, 0, 30);
        x.keep(3);
        due("text and bss", linked(x), PAGE + 30);
        dueParts(x, BASE + 20, BASE + PAGE, BASE + PAGE, BASE + PAGE, BASE + PAGE + 30, BASE, PAGE + 30);
        SymbolLinker y = withEntry(20, 30, 8, 8);
        y.keep(1);
        due("text and rodata", linked(y), PAGE + 30);
        dueParts(y, BASE + 20, BASE + PAGE, BASE + PAGE + 30, BASE + 2 * PAGE, BASE + 2 * PAGE, BASE, PAGE + 30);
        SymbolLinker z = withUnit(8, 20, 8, 30);
        global(z, "start", 1, 0);
        z.keep(3);
        due("rodata and bss", linked(z), PAGE + 30);
        dueParts(z, BASE, BASE, BASE + 20, BASE + PAGE, BASE + PAGE + 30, BASE, PAGE + 30);
    }

    private static void bssEndsWhereDataEnds() {
        for (int data : new int[] {1, 15, 16, 17}) {
            SymbolLinker x = withEntry(4, 0, data, 8);
            x.keep(2);
            due("link()", linked(x), PAGE + data);
            due("part(4)", x.part(4), BASE + PAGE + data);
        }
    }

    // ---- promise 9: what waited

    private static boolean fits(int size, int next, int what, long v) {
        SymbolLinker x = withEntry(16, 0, 0, 0);
        local(x, "end", 0, 16);
        weaklyMissing(x, "none");
        yes("await", x.await(0, 4, size, next, what, v, 77));
        boolean good = linked(x) == 16;
        dueFault(x, good ? 0 : 4, good ? 0 : 77, good ? NONE : 0);
        if (good && size == 4) {
            long sum = v + (what == 0 || what == -2 ? BASE : what == 1 ? BASE + 16 : 0) - (next < 0 ? 0 : BASE + next);
            due("4 bytes", (int) octets(x, 4, 4), sum);
            due("the bytes before", octets(x, 0, 4), 0);
            due("the bytes behind", octets(x, 8, 8), 0);
        }
        return good;
    }

    private static void fitsFromTo(int next, int what, long shift) {
        String told = "next " + next + ", what " + what + ": ";
        for (long v : new long[] {MIN, MIN + 1L, -1, 0, 1, MAX - 1L, MAX}) {
            yes(told + v, fits(4, next, what, v - shift));
        }
        for (long v : new long[] {MIN - 1L, MAX + 1L, -1L << 32, 1L << 32, 0xFFFFFFFFL, 1L << 62, -1L << 62}) {
            no(told + v, fits(4, next, what, v - shift));
        }
        for (long v : new long[] {Long.MIN_VALUE, Long.MIN_VALUE + 1, Long.MAX_VALUE - 1, Long.MAX_VALUE}) {
            no(told + v, fits(4, next, what, v));
        }
    }

    private static void fourBytesHaveTheSign() {
        fitsFromTo(-1, -1, 0);
        fitsFromTo(-1, 0, BASE);
        fitsFromTo(-1, 1, BASE + 16);
        fitsFromTo(-1, 2, 0);
        fitsFromTo(-1, -2, BASE);
        fitsFromTo(0, -1, -BASE);
        fitsFromTo(16, -1, -BASE - 16);
        fitsFromTo(0, 0, 0);
        fitsFromTo(16, 0, -16);
        fitsFromTo(8, 1, 8);
        fitsFromTo(16, 2, -BASE - 16);
    }

    private static void eightBytesHaveAll() {
        long[] numbers = {0, MIN - 1L, MAX + 1L, 1L << 32, Long.MIN_VALUE, Long.MAX_VALUE, Long.MIN_VALUE + BASE};
        for (long v : numbers) {
            SymbolLinker x = withEntry(32, 0, 0, 0);
            x.await(0, 0, 8, -1, -1, v, 1);
            x.await(0, 8, 8, -1, 0, v, 2);
            x.await(0, 16, 8, 32, -1, v, 3);
            x.await(0, 24, 8, 1, -2, v, 4);
            due("link()", linked(x), 32);
            due("a number", octets(x, 0, 8), v);
            due("over the largest", octets(x, 8, 8), v + BASE);
            due("below the least", octets(x, 16, 8), v - BASE - 32);
            due("less the next", octets(x, 24, 8), v - 1);
        }
    }

    private static void lowestByteFirst() {
        SymbolLinker x = withEntry(16, 0, 0, 0);
        x.put(0, 0, -1, 8);
        x.put(0, 8, -1, 8);
        x.await(0, 1, 4, -1, -1, 0x04030201, 0);
        x.await(0, 6, 8, -1, -1, 0x0807060504030201L, 0);
        due("link()", linked(x), 16);
        for (int k = 0; k < 4; k++) {
            due("byte " + k + " of 4", x.octet(1 + k), k + 1);
        }
        for (int k = 0; k < 8; k++) {
            due("byte " + k + " of 8", x.octet(6 + k), k + 1);
        }
        for (int i : new int[] {0, 5, 14, 15}) {
            due("a byte that did not wait", x.octet(i), 255);
        }
    }

    private static void waitsAtTheEdges() {
        SymbolLinker x = new SymbolLinker();
        keptUnit(x, 8, 8, 8, 0);
        global(x, "start", 0, 0);
        keptUnit(x, 12, 12, 12, 0);
        for (int section = 0; section < 3; section++) {
            x.await(section, 0, 4, -1, -1, 0x11111111, 0);
            x.await(section, 8, 4, -1, -1, 0x22222222, 0);
        }
        due("link()", linked(x), 2 * PAGE + 28);
        for (int section = 0; section < 3; section++) {
            due("before", octets(x, section * PAGE, 8), 0);
            due("the first bytes", octets(x, section * PAGE + 16, 8), 0x11111111L);
            due("the last bytes", octets(x, section * PAGE + 24, 4), 0x22222222L);
        }
    }

    private static void latestWaitCounts() {
        SymbolLinker x = withEntry(16, 0, 0, 0);
        x.await(0, 0, 4, -1, -1, 1, 1);
        x.await(0, 0, 4, -1, -1, 2, 3);
        x.await(0, 0, 4, -1, -1, 3, 2);
        x.await(0, 8, 8, -1, -1, -1, 9);
        x.await(0, 10, 4, -1, -1, 0, 8);
        due("link()", linked(x), 16);
        due("of three", octets(x, 0, 4), 3);
        due("within 8", octets(x, 8, 8), 0xFFFF00000000FFFFL);
        x.await(0, 8, 8, -1, -1, 0x55, 0);
        x.put(0, 0, 9, 1);
        due("link()", linked(x), 16);
        due("a put counts not", octets(x, 0, 4), 3);
        due("over both", octets(x, 8, 8), 0x55);
    }

    // ---- promise 9: a fault, and the image stays

    private static void staysWithFault(int kind, int line, int unit, Consumer<SymbolLinker> spoil) {
        SymbolLinker x = withImage();
        x.put(0, 0, -1, 8);
        x.start(3, 1);
        x.start(4, 1);
        global(x, "late", 0, 0);
        spoil.accept(x);
        dueStays(x);
        dueLinkFault(x, kind, line, unit);
        dueStays(x);
        dueLinkFault(x, kind, line, unit);
        dueStays(x);
    }

    private static void spoilByTwo(SymbolLinker x) {
        x.unit(false, 8, 0, 0, 0);
        symbol(x, "d", 1, 0, 0, 30);
    }

    private static void spoilBySize(SymbolLinker x) {
        for (int k = 0; k < 4; k++) {
            x.unit(false, 0, 0, 0, 65536);
            x.keep(3);
        }
    }

    private static void imageStaysWithFaults() {
        staysWithFault(1, 0, NONE, x -> {
            x.clear();
            x.unit(false, 8, 8, 8, 8);
            x.keep(1);
        });
        staysWithFault(2, 30, 1, SymbolLinkerBoundaries::spoilByTwo);
        staysWithFault(3, 40, 0, x -> x.await(2, 0, 4, -1, missing(x, "m"), 0, 40));
        staysWithFault(4, 50, 0, x -> x.await(0, 0, 4, -1, -1, 1L << 31, 50));
        staysWithFault(5, 0, NONE, SymbolLinkerBoundaries::spoilBySize);
    }

    private static void noImageWithFaults() {
        SymbolLinker x = withEntry(8, 0, 8, 8);
        spoilBySize(x);
        dueLinkFault(x, 5, 0, NONE);
        dueNoImage(x);
        SymbolLinker y = withEntry(8, 0, 8, 8);
        y.await(0, 0, 4, -1, -1, 1L << 31, 50);
        dueLinkFault(y, 4, 50, 0);
        dueNoImage(y);
    }

    private static void linkAgain() {
        SymbolLinker x = withImage();
        for (int k = 0; k < 3; k++) {
            due("link()", linked(x), PAGE + 8);
            dueStays(x);
            dueFault(x, 0, 0, NONE);
        }
    }

    private static void linkChangesNoUnit() {
        SymbolLinker x = withEntry(16, 0, 0, 0);
        x.put(0, 0, 0x77, 1);
        x.await(0, 8, 8, -1, 0, 1, 0);
        x.link();
        due("what waited", octets(x, 8, 8), BASE + 1);
        x.unit(false, 8, 0, 0, 0);
        x.keep(0);
        due("link()", linked(x), 24);
        due("what was put", octets(x, 0, 8), 0x77);
        due("what waited", octets(x, 8, 8), BASE + 1);
    }

    private static void faultChangesNoUnit() {
        SymbolLinker x = withUnit(16, 8, 0, 0);
        x.put(0, 0, 0x77, 1);
        x.start(5, 6);
        x.await(0, 8, 8, -1, -3, 1, 3);
        dueLinkFault(x, 1, 0, NONE);
        due("the next number", symbol(x, "start", 1, 0, 0, 0), 0);
        x.await(0, 4, 4, -1, missing(x, "m"), 2, 4);
        dueLinkFault(x, 3, 4, 0);
        due("the next number", symbol(x, "other", 1, 0, 1, 0), 2);
        due("the next unit", x.unit(true, 8, 0, 0, 0), 1);
        global(x, "m", 0, 7);
        due("link()", linked(x), PAGE + 8);
        due("what was put, and what waited", octets(x, 0, 8), (BASE + 16 + 7 + 2L) << 32 | 0x77);
        due("what waited", octets(x, 8, 8), BASE + PAGE + 1);
        due("line(5)", x.line(5), 6);
        due("other", addressOf(x, "other"), BASE + 1);
    }

    // ---- promise 10

    private static void faultsOfAnotherWhat() {
        SymbolLinker x = withEntry(8, 0, 0, 0);
        for (int round = 0; round < 3; round++) {
            for (int what : outside(0, 2)) {
                due("fault(" + what + ")", x.fault(what), NONE);
            }
            if (round == 0) {
                due("link()", linked(x), 8);
            } else {
                x.await(0, 0, 4, -1, missing(x, "m"), 0, 9);
                due("link()", linked(x), THROWN);
            }
        }
    }

    private static void noFault() {
        SymbolLinker x = new SymbolLinker();
        dueFault(x, 0, 0, NONE);
        x.unit(false, 8, 0, 0, 0);
        dueFault(x, 0, 0, NONE);
        global(x, "start", 0, 0);
        due("link()", linked(x), 8);
        dueFault(x, 0, 0, NONE);
    }

    private static void faultOfEntry() {
        for (int marks = 0; marks <= 3; marks++) {
            for (int section = -1; section <= 3; section++) {
                SymbolLinker x = withUnit(8, 8, 8, 8);
                symbol(x, "start", marks, section, 3, 44);
                boolean good = marks == 1 && section >= 0;
                due("link()", linked(x), good ? 8 : THROWN);
                dueFault(x, good ? 0 : 1, 0, NONE);
            }
        }
        SymbolLinker y = withUnit(8, 0, 0, 0);
        y.symbol(0x7374617274L, 6, 1, 0, 0, 0);
        y.symbol(0x73746172L, 4, 1, 0, 0, 0);
        y.symbol(0x7472617473L, 5, 1, 0, 0, 0);
        dueLinkFault(y, 1, 0, NONE);
        y.symbol(0x7F7374617274L, 5, 1, 0, 2, 0);
        due("the five lowest bytes", linked(y), 8);
        due("ENTRY", y.part(5), BASE + 2);
    }

    private static void twoLabels(int first, int second, boolean fault) {
        SymbolLinker x = withEntry(8, 8, 8, 8);
        symbol(x, "a", first, 0, 0, 5);
        x.unit(false, 8, 0, 0, 0);
        symbol(x, "a", second, 0, 0, 65535);
        due("link() with marks " + first + ", " + second, linked(x), fault ? THROWN : 8);
        dueFault(x, fault ? 2 : 0, fault ? 65535 : 0, fault ? 1 : NONE);
    }

    private static void faultOfTwoGlobals() {
        for (int first = 0; first <= 3; first++) {
            for (int second = 0; second <= 3; second++) {
                twoLabels(first, second, first == 1 && second == 1);
            }
        }
        SymbolLinker x = withEntry(8, 0, 0, 0);
        symbol(x, "a", 1, -1, 0, 0);
        x.unit(false, 8, 0, 0, 0);
        global(x, "a", 0, 0);
        x.unit(false, 8, 0, 0, 0);
        symbol(x, "a", 1, -1, 0, 0);
        x.unit(true, 8, 0, 0, 0);
        global(x, "a", 0, 0);
        due("missing ones and one of a unit not taken", linked(x), 8);
        x.unit(false, 8, 0, 0, 0);
        symbol(x, "start", 1, 0, 0, 0);
        dueLinkFault(x, 2, 0, 4);
    }

    private static void firstUnitAndLeastLineOfTwo() {
        SymbolLinker x = withEntry(8, 0, 0, 0);
        symbol(x, "a", 1, 0, 0, 1);
        symbol(x, "b", 1, 0, 0, 1);
        symbol(x, "c", 1, 0, 0, 1);
        x.unit(false, 8, 0, 0, 0);
        symbol(x, "new", 1, 0, 0, 0);
        symbol(x, "start", 2, 0, 0, 0);
        x.unit(false, 8, 0, 0, 0);
        symbol(x, "fresh", 1, 0, 0, 2);
        symbol(x, "b", 1, 0, 0, 501);
        symbol(x, "a", 1, 0, 0, 500);
        symbol(x, "c", 1, 0, 0, 502);
        symbol(x, "later", 1, 0, 0, 1);
        x.unit(false, 8, 0, 0, 0);
        symbol(x, "a", 1, 0, 0, 3);
        symbol(x, "new", 1, 0, 0, 4);
        dueLinkFault(x, 2, 500, 2);
    }

    private static void twoGlobalsOfLibraries() {
        SymbolLinker x = new SymbolLinker();
        x.unit(true, 8, 0, 0, 0);
        symbol(x, "a", 1, 0, 0, 9);
        symbol(x, "b", 1, 0, 0, 8);
        x.unit(false, 8, 0, 0, 0);
        symbol(x, "start", 1, 0, 0, 7);
        symbol(x, "b", 1, 0, 0, 6);
        due("the library is not taken", linked(x), 8);
        missing(x, "a");
        dueLinkFault(x, 2, 6, 1);
    }

    private static void orderOfWaits() {
        SymbolLinker x = withEntry(16, 16, 0, 0);
        x.await(1, 0, 4, -1, -1, 1L << 40, 0);
        x.unit(true, 16, 0, 0, 0);
        x.keep(0);
        x.await(0, 0, 4, -1, -1, 1L << 40, 0);
        x.unit(false, 16, 16, 16, 0);
        x.keep(0);
        x.keep(2);
        int gone = missing(x, "gone");
        x.await(1, 0, 4, -1, gone, 0, 0);
        x.await(0, 0, 4, -1, -1, 0, 1);
        x.await(2, 0, 4, -1, -1, 1L << 40, 65535);
        x.unit(false, 16, 0, 0, 0);
        x.keep(0);
        x.await(0, 0, 4, -1, -1, 1L << 40, 0);
        dueLinkFault(x, 4, 65535, 2);
    }

    private static void orderOfLines(boolean missingFirst) {
        SymbolLinker x = withEntry(16, 16, 0, 0);
        x.keep(1);
        int gone = missing(x, "gone");
        int[] lines = {40, 30, 30, 31};
        for (int k = 0; k < lines.length; k++) {
            boolean miss = missingFirst == (k % 2 == 1);
            x.await(k % 2, 4 * k, 4, -1, miss ? gone : -1, miss ? 0 : 1L << 40, lines[k]);
        }
        dueLinkFault(x, missingFirst ? 3 : 4, 30, 0);
        x.await(0, 0, 4, -1, -1, 1L << 40, 0);
        dueLinkFault(x, 4, 0, 0);
    }

    private static void linesOfWaitsInUnits() {
        orderOfLines(true);
        orderOfLines(false);
    }

    private static void faultThreeBeforeItsValue() {
        SymbolLinker x = withEntry(16, 0, 0, 0);
        x.await(0, 0, 4, -1, missing(x, "gone"), 1L << 40, 65535);
        dueLinkFault(x, 3, 65535, 0);
        SymbolLinker y = withEntry(16, 0, 0, 0);
        y.await(0, 0, 8, 3, symbol(y, "gone", 1, -1, 0, 0), Long.MIN_VALUE, 1);
        dueLinkFault(y, 3, 1, 0);
        SymbolLinker z = withEntry(16, 0, 0, 0);
        missing(z, "gone");
        due("a missing one that nothing waits for", linked(z), 16);
    }

    private static SymbolLinker withBssBehind(int bss) {
        SymbolLinker x = withUnit(65536, 65536, 65536, 65536 - 16);
        global(x, "start", 0, 0);
        x.keep(1);
        x.keep(2);
        x.keep(3);
        x.unit(false, 0, 0, 0, bss);
        x.keep(3);
        return x;
    }

    private static void faultOfSize() {
        SymbolLinker x = withBssBehind(16);
        due("262144 bytes", linked(x), 262144);
        due("the last byte", x.octet(262143), 0);
        due("behind it", x.octet(262144), NONE);
        due("the end of bss", x.part(4), BASE + 262144);
        dueFault(x, 0, 0, NONE);
        dueLinkFault(withBssBehind(17), 5, 0, NONE);
        dueLinkFault(withBssBehind(65536), 5, 0, NONE);
        due("262143 bytes", linked(withBssBehind(15)), 262143);
        SymbolLinker y = withBssBehind(16);
        y.unit(false, 0, 0, 0, 1);
        due("what is left out counts not", linked(y), 262144);
        y.keep(0);
        due("an empty section of text", linked(y), 262144);
        y.keep(3);
        dueLinkFault(y, 5, 0, NONE);
    }

    /** What an image of three parts comes to whose data ends this many bytes behind 200704. */
    private static int linkedWithData(int data, int bss) {
        SymbolLinker x = new SymbolLinker();
        keptUnit(x, 65536, 65535, 65536, bss);
        keptUnit(x, 1, 0, data, 0);
        global(x, "start", 0, 1);
        int size = linked(x);
        dueFault(x, size == THROWN ? 5 : 0, 0, NONE);
        return size;
    }

    private static void faultOfSizeInOtherParts() {
        due("data to 262143", linkedWithData(61439, 0), 262143);
        due("data to 262144", linkedWithData(61440, 0), 262144);
        due("data to 262145", linkedWithData(61441, 0), THROWN);
        due("bss at 262128", linkedWithData(61424, 16), 262144);
        due("bss at 262128 to 262145", linkedWithData(61424, 17), THROWN);
        due("bss at 262144", linkedWithData(61425, 1), THROWN);
        SymbolLinker y = new SymbolLinker();
        keptUnit(y, 65536, 0, 0, 0);
        global(y, "start", 0, 1);
        keptUnit(y, 65536, 0, 0, 0);
        keptUnit(y, 65536, 0, 0, 0);
        keptUnit(y, 65536 - 16, 0, 0, 0);
        keptUnit(y, 16, 0, 0, 0);
        due("text alone", linked(y), 262144);
        y.unit(false, 0, 0, 0, 0);
        y.keep(1);
        due("empty rodata behind it", linked(y), 262144);
        y.keep(3);
        due("empty bss behind it", linked(y), 262144);
        keptUnit(y, 0, 0, 0, 1);
        dueLinkFault(y, 5, 0, NONE);
    }

    private static void largestImageOfAll() {
        SymbolLinker x = withUnit(65536, 65536, 65536, 65536);
        global(x, "start", 0, 0);
        for (int k = 1; k < 32; k++) {
            x.unit(false, 0, 0, 0, 65536);
            x.keep(3);
        }
        dueLinkFault(x, 5, 0, NONE);
        dueNeeded(x, 31, 0, 0, 0, 1);
    }

    /** Each kind of fault beside all later ones: the first counts. */
    private static void firstOfAllFaults() {
        SymbolLinker x = withUnit(65536, 0, 0, 65536);
        x.keep(0);
        x.keep(3);
        symbol(x, "a", 1, 0, 0, 1);
        x.unit(false, 16, 0, 0, 65536);
        x.keep(0);
        spoilBySize(x);
        x.unit(false, 16, 0, 0, 0);
        x.keep(0);
        int gone = missing(x, "gone");
        symbol(x, "a", 1, 0, 0, 60);
        x.await(0, 0, 4, -1, gone, 0, 20);
        dueLinkFault(x, 1, 0, NONE);
        x.unit(false, 0, 0, 0, 0);
        symbol(x, "start", 1, 0, 0, 0);
        dueLinkFault(x, 2, 60, 6);
        SymbolLinker y = withUnit(16, 0, 0, 65536);
        symbol(y, "start", 1, 0, 0, 0);
        y.await(0, 0, 4, -1, missing(y, "gone"), 0, 20);
        y.await(0, 4, 4, -1, -1, 1L << 40, 21);
        spoilBySize(y);
        dueLinkFault(y, 3, 20, 0);
        SymbolLinker z = withUnit(16, 0, 0, 65536);
        symbol(z, "start", 1, 0, 0, 0);
        z.await(0, 4, 4, -1, -1, 1L << 40, 21);
        spoilBySize(z);
        dueLinkFault(z, 4, 21, 0);
    }

    private static void lineAndUnitOfLaterFaults() {
        SymbolLinker x = withUnit(8, 0, 0, 0);
        x.unit(false, 8, 0, 0, 0);
        global(x, "start", 0, 0);
        x.await(0, 0, 4, -1, missing(x, "m"), 0, 65535);
        dueLinkFault(x, 3, 65535, 1);
        x.unit(false, 8, 0, 0, 0);
        global(x, "m", 0, 0);
        due("link()", linked(x), 24);
        dueFault(x, 0, 0, NONE);
        x.await(0, 0, 4, -1, -1, 1L << 31, 3);
        dueLinkFault(x, 4, 3, 2);
        x.clear();
        dueFault(x, 4, 3, 2);
        dueLinkFault(x, 1, 0, NONE);
        x.unit(false, 8, 0, 0, 0);
        symbol(x, "start", 1, 0, 0, 0);
        x.unit(false, 8, 0, 0, 0);
        symbol(x, "start", 1, 0, 0, 65535);
        dueLinkFault(x, 2, 65535, 1);
        x.clear();
        x.unit(false, 8, 0, 0, 0);
        symbol(x, "start", 1, 0, 0, 0);
        spoilBySize(x);
        dueLinkFault(x, 5, 0, NONE);
    }

    private static void faultOfTheLastUnit() {
        SymbolLinker x = withEntry(8, 0, 0, 0);
        for (int k = 1; k < 32; k++) {
            x.unit(false, 4, 0, 0, 0);
            x.keep(0);
            x.await(0, 0, 4, -1, -1, k == 31 ? MIN - 1L : MIN, 65535 - k);
        }
        dueLinkFault(x, 4, 65535 - 31, 31);
    }

    private static void faultIsOfTheLatestLink() {
        SymbolLinker x = withEntry(8, 0, 0, 0);
        due("link()", linked(x), 8);
        x.await(0, 0, 4, -1, -1, 1L << 31, 3);
        dueFault(x, 0, 0, NONE);
        dueLinkFault(x, 4, 3, 0);
        x.await(0, 0, 4, -1, -1, 1L << 31, 2);
        dueFault(x, 4, 3, 0);
        dueLinkFault(x, 4, 2, 0);
    }

    // ---- promise 11

    private static void neededOfNoneSuch() {
        SymbolLinker x = withEntry(8, 8, 8, 8);
        x.unit(false, 8, 8, 8, 8);
        for (int round = 0; round < 2; round++) {
            for (int u : outside(0, 1)) {
                due("needed(" + u + ", 0)", x.needed(u, 0), NONE);
            }
            for (int section : outside(0, 3)) {
                due("needed(0, " + section + ")", x.needed(0, section), NONE);
                due("needed(1, " + section + ")", x.needed(1, section), NONE);
            }
            due("needed(MIN, MIN)", x.needed(MIN, MIN), NONE);
            due("needed(MAX, MAX)", x.needed(MAX, MAX), NONE);
            dueNeeded(x, 0, round, 0, 0, 0);
            dueNeeded(x, 1, 0, 0, 0, 0);
            x.link();
        }
    }

    private static void neededWithoutLink() {
        SymbolLinker x = withUnit(8, 8, 8, 8);
        for (int section = 0; section < 4; section++) {
            x.keep(section);
        }
        dueNeeded(x, 0, 0, 0, 0, 0);
        dueLinkFault(x, 1, 0, NONE);
        dueNeeded(x, 0, 0, 0, 0, 0);
        global(x, "start", 0, 0);
        x.unit(false, 8, 0, 0, 0);
        symbol(x, "start", 1, 0, 0, 5);
        dueLinkFault(x, 2, 5, 1);
        dueNeeded(x, 0, 0, 0, 0, 0);
        dueNeeded(x, 1, 0, 0, 0, 0);
    }

    private static void neededOfUnitsBehind() {
        SymbolLinker x = withEntry(8, 8, 8, 8);
        x.link();
        x.unit(false, 8, 8, 8, 8);
        for (int section = 0; section < 4; section++) {
            x.keep(section);
        }
        dueNeeded(x, 0, 1, 0, 0, 0);
        dueNeeded(x, 1, 0, 0, 0, 0);
        x.link();
        dueNeeded(x, 0, 1, 0, 0, 0);
        dueNeeded(x, 1, 1, 1, 1, 1);
        x.clear();
        due("needed of a gone unit", x.needed(0, 0), NONE);
        x.unit(false, 8, 8, 8, 8);
        x.unit(false, 8, 8, 8, 8);
        dueNeeded(x, 0, 0, 0, 0, 0);
        dueNeeded(x, 1, 0, 0, 0, 0);
    }

    private static void neededStaysWithFaults1And2() {
        SymbolLinker x = withEntry(8, 8, 8, 8);
        x.keep(1);
        x.link();
        dueNeeded(x, 0, 1, 1, 0, 0);
        x.keep(2);
        dueNeeded(x, 0, 1, 1, 0, 0);
        x.unit(false, 8, 8, 8, 8);
        x.keep(3);
        symbol(x, "start", 1, 0, 0, 1);
        dueLinkFault(x, 2, 1, 1);
        dueNeeded(x, 0, 1, 1, 0, 0);
        dueNeeded(x, 1, 0, 0, 0, 0);
        // ENTRY is lost when its library is not taken any more.
        SymbolLinker y = new SymbolLinker();
        y.unit(true, 8, 8, 8, 8);
        global(y, "start", 0, 0);
        global(y, "a", 0, 0);
        y.keep(2);
        y.unit(false, 8, 8, 8, 8);
        missing(y, "a");
        due("link()", linked(y), PAGE + 8);
        y.keep(1);
        y.unit(false, 8, 8, 8, 8);
        y.keep(3);
        weak(y, "a", 0, 0);
        dueLinkFault(y, 1, 0, NONE);
        dueNeeded(y, 0, 1, 0, 1, 0);
        dueNeeded(y, 1, 0, 0, 0, 0);
        dueNeeded(y, 2, 0, 0, 0, 0);
        due("the image stays", y.part(6), PAGE + 8);
    }

    private static void neededTellsOfFaults3To5() {
        SymbolLinker x = withEntry(8, 8, 8, 8);
        int gone = missing(x, "gone");
        x.link();
        dueNeeded(x, 0, 1, 0, 0, 0);
        x.keep(1);
        x.await(0, 0, 8, -1, gone, 0, 5);
        dueLinkFault(x, 3, 5, 0);
        dueNeeded(x, 0, 1, 1, 0, 0);
        x.keep(2);
        x.await(0, 0, 4, -1, -1, 1L << 31, 4);
        dueLinkFault(x, 4, 4, 0);
        dueNeeded(x, 0, 1, 1, 1, 0);
        SymbolLinker y = withEntry(8, 8, 8, 8);
        y.link();
        y.keep(3);
        spoilBySize(y);
        dueLinkFault(y, 5, 0, NONE);
        dueNeeded(y, 0, 1, 0, 0, 1);
        dueNeeded(y, 4, 0, 0, 0, 1);
    }

    private static void neededIsOfTheLatest() {
        SymbolLinker x = new SymbolLinker();
        x.unit(true, 8, 0, 0, 0);
        x.keep(0);
        global(x, "a", 0, 0);
        x.unit(false, 8, 0, 0, 0);
        global(x, "start", 0, 0);
        missing(x, "a");
        due("link()", linked(x), 24);
        dueNeeded(x, 0, 1, 0, 0, 0);
        x.unit(false, 0, 0, 8, 0);
        weak(x, "a", 2, 0);
        due("a unit that is not taken any more", linked(x), 8);
        dueNeeded(x, 0, 0, 0, 0, 0);
        dueNeeded(x, 1, 1, 0, 0, 0);
    }

    // ---- promise 12

    private static void octetsOutside() {
        for (int size : new int[] {1, 2, 16, 4096, 65536}) {
            SymbolLinker x = withEntry(size, 0, 0, 0);
            x.put(0, 0, 255, 1);
            x.put(0, size - 1, 255, 1);
            due("octet(0) before", x.octet(0), NONE);
            x.link();
            for (int i : outside(0, size - 1)) {
                due("octet(" + i + ")", x.octet(i), NONE);
            }
            due("octet(0)", x.octet(0), 255);
            due("octet(" + (size - 1) + ")", x.octet(size - 1), 255);
            due("by its address", x.octet(BASE), NONE);
        }
    }

    private static void octetsOfAllValues() {
        SymbolLinker x = withEntry(256, 0, 0, 0);
        for (int k = 0; k < 64; k++) {
            x.put(0, 4 * k, 4 * k | (4 * k + 1) << 8 | (4 * k + 2) << 16 | (4L * k + 3) << 24, 4);
        }
        x.link();
        for (int k = 0; k < 256; k++) {
            due("octet(" + k + ")", x.octet(k), k);
        }
    }

    private static void octetsBetweenAndInBss() {
        SymbolLinker x = new SymbolLinker();
        keptUnit(x, 3, 3, 3, 3);
        global(x, "start", 0, 0);
        for (int section = 0; section < 3; section++) {
            x.put(section, 0, -1, 3);
        }
        due("link()", linked(x), 2 * PAGE + 19);
        for (int page = 0; page < 3; page++) {
            due("the last byte", x.octet(page * PAGE + 2), 255);
            due("behind it", x.octet(page * PAGE + 3), 0);
            due("before the next", x.octet(page * PAGE + (page == 2 ? 15 : PAGE - 1)), 0);
        }
        due("bss", x.octet(2 * PAGE + 16), 0);
        due("the end of bss", x.octet(2 * PAGE + 18), 0);
        due("behind bss", x.octet(2 * PAGE + 19), NONE);
    }

    private static void octetsOfALaterImage() {
        SymbolLinker x = new SymbolLinker();
        x.unit(false, 64, 0, 0, 0);
        global(x, "start", 0, 0);
        for (int k = 0; k < 8; k++) {
            x.put(0, 8 * k, -1, 8);
        }
        due("link()", linked(x), 64);
        x.clear();
        keptUnit(x, 1, 0, 0, 0);
        global(x, "start", 0, 0);
        keptUnit(x, 1, 0, 0, 0);
        due("link() of less", linked(x), 17);
        for (int i = 0; i < 17; i++) {
            due("octet(" + i + ")", x.octet(i), 0);
        }
        due("the old end", x.octet(17), NONE);
        due("the old end", x.octet(63), NONE);
        keptUnit(x, 0, 0, 0, 64);
        due("link() of more", linked(x), PAGE + 64);
        for (int i = 0; i < 80; i++) {
            due("octet(" + i + ")", x.octet(i), 0);
        }
    }

    // ---- promise 13

    private static void addressesOfOtherLengths() {
        SymbolLinker x = withEntry(16, 0, 0, 0);
        x.symbol(0, 1, 1, 0, 1, 0);
        x.symbol(0, 8, 1, 0, 8, 0);
        x.symbol(-1, 8, 1, 0, 9, 0);
        x.link();
        for (int n : outside(1, 8)) {
            for (long word : new long[] {0, -1, word("start"), Long.MIN_VALUE, Long.MAX_VALUE}) {
                due("n " + n, addressOf(x, word, n), THROWN);
            }
        }
        due("n 1", addressOf(x, 0, 1), BASE + 1);
        due("n 8", addressOf(x, 0, 8), BASE + 8);
        due("n 8", addressOf(x, -1, 8), BASE + 9);
        due("n 7", addressOf(x, 0, 7), THROWN);
        due("n 2", addressOf(x, 0, 2), THROWN);
        due("n 7", addressOf(x, -1, 7), THROWN);
        due("the least word", addressOf(x, Long.MIN_VALUE, 8), THROWN);
        due("the largest word", addressOf(x, Long.MAX_VALUE, 8), THROWN);
    }

    private static void namesWithoutAddress() {
        SymbolLinker x = withEntry(16, 16, 0, 0);
        due("without an image", addressOf(x, "start"), THROWN);
        local(x, "local", 0, 0);
        weaklyMissing(x, "none");
        missing(x, "miss");
        global(x, "left", 1, 0);
        weak(x, "low", 1, 0);
        x.unit(true, 16, 0, 0, 0);
        x.keep(0);
        global(x, "lib", 0, 0);
        due("link()", linked(x), 16);
        for (String name : new String[] {"local", "none", "miss", "left", "low", "lib", "other"}) {
            due(name, addressOf(x, name), THROWN);
        }
        due("start", addressOf(x, "start"), BASE);
        global(x, "late", 0, 0);
        due("a label behind the link", addressOf(x, "late"), THROWN);
    }

    private static void globalElseWeak() {
        SymbolLinker x = new SymbolLinker();
        keptUnit(x, 16, 0, 0, 0);
        global(x, "start", 0, 16);
        weak(x, "gw", 0, 1);
        weak(x, "ww", 0, 2);
        local(x, "lw", 0, 3);
        weaklyMissing(x, "mw");
        keptUnit(x, 16, 0, 0, 0);
        weak(x, "gw", 0, 4);
        weak(x, "ww", 0, 5);
        weak(x, "lw", 0, 6);
        weak(x, "mw", 0, 7);
        keptUnit(x, 16, 0, 0, 0);
        global(x, "gw", 0, 8);
        due("link()", linked(x), 48);
        due("the global one", addressOf(x, "gw"), BASE + 40);
        due("the first weak one", addressOf(x, "ww"), BASE + 2);
        due("not the local one", addressOf(x, "lw"), BASE + 22);
        due("not the missing one", addressOf(x, "mw"), BASE + 23);
        due("at the end", addressOf(x, "start"), BASE + 16);
    }

    private static void namesLeftOut() {
        SymbolLinker x = new SymbolLinker();
        x.unit(false, 16, 16, 0, 0);
        global(x, "start", 0, 0);
        weak(x, "gw", 0, 1);
        weak(x, "ww", 1, 2);
        x.unit(false, 16, 16, 0, 0);
        x.keep(0);
        global(x, "gw", 1, 3);
        weak(x, "ww", 0, 4);
        due("link()", linked(x), 32);
        due("the global one is left out", addressOf(x, "gw"), THROWN);
        due("the first weak one is left out", addressOf(x, "ww"), THROWN);
        x.keep(1);
        due("link()", linked(x), PAGE + 16);
        due("the global one", addressOf(x, "gw"), BASE + PAGE + 3);
        due("the first weak one is left out", addressOf(x, "ww"), THROWN);
    }

    private static void manyNames() {
        SymbolLinker x = withEntry(256, 0, 0, 0);
        for (int k = 0; k < 240; k++) {
            due("symbol", x.symbol(k, 8, 1, 0, k, 0), k + 1);
        }
        due("link()", linked(x), 256);
        for (int k = 0; k < 240; k++) {
            due("name " + k, addressOf(x, k, 8), BASE + k);
        }
        due("name 240", addressOf(x, 240, 8), THROWN);
    }

    private static void namesOfALaterImage() {
        SymbolLinker x = withEntry(16, 0, 0, 0);
        global(x, "old", 0, 3);
        x.link();
        due("old", addressOf(x, "old"), BASE + 3);
        x.clear();
        x.unit(false, 16, 0, 0, 0);
        global(x, "start", 0, 5);
        x.link();
        due("old", addressOf(x, "old"), THROWN);
        due("start", addressOf(x, "start"), BASE + 5);
    }

    // ---- promise 14

    private static void linesOutside() {
        SymbolLinker x = withEntry(16, 16, 16, 16);
        for (int place = 0; place < 16; place++) {
            x.start(place, place);
        }
        for (int section = 1; section < 4; section++) {
            x.keep(section);
        }
        due("line(0) before", x.line(0), NONE);
        x.link();
        for (int i : outside(0, 15)) {
            due("line(" + i + ")", x.line(i), NONE);
        }
        for (int i = 0; i < 16; i++) {
            due("line(" + i + ")", x.line(i), i);
        }
        due("by its address", x.line(BASE), NONE);
        due("in rodata", x.line(PAGE), NONE);
        due("in data", x.line(2 * PAGE), NONE);
    }

    private static void linesOfTheLastUnit() {
        SymbolLinker x = withEntry(1, 0, 0, 0);
        x.start(0, 65535);
        for (int k = 1; k < 32; k++) {
            x.unit(false, 1, 0, 0, 0);
            x.keep(0);
            x.start(0, k % 2 == 0 ? 0 : 65535);
        }
        due("link()", linked(x), 31 * 16 + 1);
        for (int k = 0; k < 32; k++) {
            due("unit " + k, x.line(16 * k), 65536 * k + (k % 2 == 0 && k > 0 ? 0 : 65535));
            due("behind it", x.line(16 * k + 1), NONE);
        }
    }

    private static void linesOfLeftOutText() {
        SymbolLinker x = withUnit(16, 0, 0, 0);
        x.start(0, 7);
        x.start(15, 8);
        x.unit(true, 16, 0, 0, 0);
        x.keep(0);
        x.start(1, 9);
        x.unit(false, 16, 0, 0, 0);
        global(x, "start", 0, 0);
        x.start(2, 10);
        due("link()", linked(x), 16);
        for (int i = 0; i < 32; i++) {
            due("line(" + i + ")", x.line(i), i == 2 ? 2 * 65536 + 10 : NONE);
        }
    }

    private static void linesOfALaterImage() {
        SymbolLinker x = withEntry(16, 0, 0, 0);
        x.start(3, 4);
        x.link();
        due("line(3)", x.line(3), 4);
        x.clear();
        x.unit(false, 2, 0, 0, 0);
        x.unit(false, 16, 0, 0, 0);
        global(x, "start", 0, 0);
        x.start(4, 0);
        x.link();
        due("line(3)", x.line(3), NONE);
        due("line(4)", x.line(4), 65536);
    }

    // ---- promise 15

    private static void partsOfAnotherWhat() {
        SymbolLinker x = withEntry(16, 0, 0, 0);
        for (int round = 0; round < 2; round++) {
            for (int what : outside(0, 6)) {
                due("part(" + what + ")", x.part(what), NONE);
            }
            x.link();
        }
    }

    private static void partsWithoutImage() {
        SymbolLinker x = new SymbolLinker();
        dueParts(x, 0, 0, 0, 0, 0, 0, 0);
        x.unit(false, 8, 8, 8, 8);
        dueLinkFault(x, 1, 0, NONE);
        dueParts(x, 0, 0, 0, 0, 0, 0, 0);
        global(x, "start", 0, 3);
        x.await(0, 0, 4, -1, -1, 1L << 40, 1);
        dueLinkFault(x, 4, 1, 0);
        dueParts(x, 0, 0, 0, 0, 0, 0, 0);
        x.clear();
        dueParts(x, 0, 0, 0, 0, 0, 0, 0);
    }

    private static void partsOfTheLargestImage() {
        SymbolLinker x = withUnit(65536, 65536, 65536, 65536);
        global(x, "start", 3, 65536);
        x.keep(0);
        x.keep(1);
        x.keep(2);
        due("link()", linked(x), 262144);
        dueParts(x, BASE + 65536, BASE + 65536, BASE + 131072, BASE + 131072, BASE + 262144, BASE + 262144, 262144);
    }

    // ---- all of them

    private static void promises1To5() {
        holds("1, No units", SymbolLinkerBoundaries::noUnits);
        holds("1, no image", SymbolLinkerBoundaries::noImage);
        holds("1, A new object, beside another", SymbolLinkerBoundaries::newBesideAnother);
        holds("2, clear of nothing", SymbolLinkerBoundaries::clearOfNothing);
        holds("2, All units are gone", SymbolLinkerBoundaries::unitsAreGone);
        holds("2, All units are gone: 32 and 262144 bytes again", SymbolLinkerBoundaries::fullOfUnitsAgain);
        holds("2, All units are gone: the bytes are 0 at first", SymbolLinkerBoundaries::bytesAreZeroAgain);
        holds("2, All units are gone: symbols", SymbolLinkerBoundaries::symbolsAreGone);
        holds("2, All units are gone: what waits, starts, kept", SymbolLinkerBoundaries::waitsStartsAndKeptAreGone);
        holds("2, the image stays", SymbolLinkerBoundaries::imageStaysAfterClear);
        holds("2, the latest link()'s fault stays", SymbolLinkerBoundaries::faultStaysAfterClear);
        holds("3, a size is not 0 .. 65536", SymbolLinkerBoundaries::sizesOfSections);
        holds("3, a size is not 0 .. 65536: all at once", SymbolLinkerBoundaries::allSizesAtOnce);
        holds("3, the first three of all units come to more than 262144", SymbolLinkerBoundaries::sizesOfAllUnits);
        holds("3, there are 32 units", SymbolLinkerBoundaries::countOfUnits);
        holds("3, its number: 32 units in an image", SymbolLinkerBoundaries::fullUnitsLink);
        holds("3, the bytes of the first three are 0 at first", SymbolLinkerBoundaries::bytesAreZeroAtFirst);
        holds("3, NONE changes nothing", SymbolLinkerBoundaries::refusedUnitChangesNothing);
        holds("4, the n (1 .. 8) lowest bytes of v", SymbolLinkerBoundaries::countOfPutBytes);
        holds("4, the lowest first, at the ends of long", SymbolLinkerBoundaries::putsAtTheEndsOfLong);
        holds("4, there is no unit", SymbolLinkerBoundaries::putWithoutUnit);
        holds("4, no such section (0 .. 2)", SymbolLinkerBoundaries::putToSections);
        holds("4, they do not lie in it", SymbolLinkerBoundaries::putInSections);
        holds("4, they do not lie in it: empty and largest", SymbolLinkerBoundaries::putInEmptyAndLargestSections);
        holds("4, Bytes of a section of the latest unit", SymbolLinkerBoundaries::putStaysInItsSection);
        holds("4, false changes nothing", SymbolLinkerBoundaries::refusedPutChangesNothing);
        holds("5, false if there is none such", SymbolLinkerBoundaries::keepOfSections);
        holds("5, an empty section is kept", SymbolLinkerBoundaries::keepOfEmptySections);
        holds("5, false without a unit", SymbolLinkerBoundaries::keepWithoutUnit);
        holds("5, A section of the latest unit", SymbolLinkerBoundaries::keepOfTheLatestUnit);
        holds("5, false changes nothing", SymbolLinkerBoundaries::refusedKeepChangesNothing);
    }

    private static void promises6To8() {
        holds("6, there is no unit", SymbolLinkerBoundaries::symbolWithoutUnit);
        holds("6, n (1 .. 8)", SymbolLinkerBoundaries::lengthsOfNames);
        holds("6, the n lowest bytes of word", SymbolLinkerBoundaries::bytesOfNames);
        holds("6, marks 1 global + 2 weak", SymbolLinkerBoundaries::marksOfSymbols);
        holds("6, with both it is WEAK", SymbolLinkerBoundaries::bothMarksAreWeak);
        holds("6, section -1: missing", SymbolLinkerBoundaries::sectionsOfSymbols);
        holds("6, a place of a section (0 up to its size)", SymbolLinkerBoundaries::placesOfLabels);
        holds("6, a place of a section: its end", SymbolLinkerBoundaries::labelsAtTheEnd);
        holds("6, lines are 0 .. 65535", SymbolLinkerBoundaries::linesOfSymbols);
        holds("6, the unit has this name", SymbolLinkerBoundaries::namesOfAUnit);
        holds("6, a refused name is free", SymbolLinkerBoundaries::refusedNamesAreFree);
        holds("6, NONE changes nothing", SymbolLinkerBoundaries::refusedSymbolChangesNothing);
        holds("7, there is no unit", SymbolLinkerBoundaries::awaitWithoutUnit);
        holds("7, a section but bss", SymbolLinkerBoundaries::sectionsThatWait);
        holds("7, the size 4 or 8", SymbolLinkerBoundaries::sizesThatWait);
        holds("7, that lie in it", SymbolLinkerBoundaries::placesThatWait);
        holds("7, next the place of the next one or -1", SymbolLinkerBoundaries::placesOfNext);
        holds("7, what a symbol's number, -1, -2 - a section", SymbolLinkerBoundaries::whatIsAwaited);
        holds("7, the beginning of one of its sections", SymbolLinkerBoundaries::whatIsASection);
        holds("7, lines are 0 .. 65535", SymbolLinkerBoundaries::linesThatWait);
        holds("7, a number, at the ends of long", SymbolLinkerBoundaries::numbersThatWait);
        holds("7, false changes nothing", SymbolLinkerBoundaries::refusedAwaitChangesNothing);
        holds("8, there is no unit", SymbolLinkerBoundaries::startWithoutUnit);
        holds("8, it is not within its text (below its size)", SymbolLinkerBoundaries::placesOfStarts);
        holds("8, line is not so", SymbolLinkerBoundaries::linesOfStarts);
        holds("8, Of two at a place the latest counts", SymbolLinkerBoundaries::latestStartCounts);
        holds("8, false changes nothing", SymbolLinkerBoundaries::refusedStartChangesNothing);
    }

    private static void promise9() {
        holds("9, a unit that is no LIBRARY is taken", SymbolLinkerBoundaries::librariesNobodyMisses);
        holds("9, a global or weak label; misses (not as weak)", SymbolLinkerBoundaries::marksOfLibraries);
        holds("9, missing, or a LABEL", SymbolLinkerBoundaries::labelsAreNotMissed);
        holds("9, linking takes units anew", SymbolLinkerBoundaries::librariesOfEarlierLinks);
        holds("9, that a unit that is taken misses", SymbolLinkerBoundaries::untakenUnitsMissAndHaveNothing);
        holds("9, again and again, till there is none", SymbolLinkerBoundaries::fullChainOfLibraries);
        holds("9, the first library unit", SymbolLinkerBoundaries::theFirstLibraryAgain);
        holds("9, every other symbol stands for", SymbolLinkerBoundaries::meaningsOfSymbols);
        holds("9, else the first weak one there", SymbolLinkerBoundaries::earlierWeakLabels);
        holds("9, a label of an empty section", SymbolLinkerBoundaries::labelsOfEmptySections);
        holds("9, for the address 0", SymbolLinkerBoundaries::addressZero);
        holds("9, some needed section waits for: full", SymbolLinkerBoundaries::fullChainOfSections);
        holds("9, the others are left out", SymbolLinkerBoundaries::leftOutSectionsNeedNothing);
        holds("9, that with the global label ENTRY", SymbolLinkerBoundaries::entryInEachSection);
        holds("9, to the end of its last section", SymbolLinkerBoundaries::sizeToTheEndOfTheLastSection);
        holds("9, the image of an empty section", SymbolLinkerBoundaries::emptyImage);
        holds("9, the next multiple of 16", SymbolLinkerBoundaries::sectionsAtMultiplesOf16);
        holds("9, the next multiple of 4096", SymbolLinkerBoundaries::partsAtMultiplesOf4096);
        holds("9, (at a multiple of 16) bss", SymbolLinkerBoundaries::bssAtMultiplesOf16);
        holds("9, a part without sections", SymbolLinkerBoundaries::partsWithoutSections);
        holds("9, a part without sections between others", SymbolLinkerBoundaries::pairsOfParts);
        holds("9, (bss: where data ends)", SymbolLinkerBoundaries::bssEndsWhereDataEnds);
        holds("9, 4 bytes must have it with its sign", SymbolLinkerBoundaries::fourBytesHaveTheSign);
        holds("9, 8 bytes have all", SymbolLinkerBoundaries::eightBytesHaveAll);
        holds("9, the lowest byte first", SymbolLinkerBoundaries::lowestByteFirst);
        holds("9, what waits gets its value: first and last bytes", SymbolLinkerBoundaries::waitsAtTheEdges);
        holds("9, the latest told counts", SymbolLinkerBoundaries::latestWaitCounts);
        holds("9, the image before stays", SymbolLinkerBoundaries::imageStaysWithFaults);
        holds("9, no image before", SymbolLinkerBoundaries::noImageWithFaults);
        holds("9, the same units, the same image", SymbolLinkerBoundaries::linkAgain);
        holds("9, units stay as they are", SymbolLinkerBoundaries::linkChangesNoUnit);
        holds("9, units stay as they are with a fault", SymbolLinkerBoundaries::faultChangesNoUnit);
    }

    private static void promises10And11() {
        holds("10, NONE for another what", SymbolLinkerBoundaries::faultsOfAnotherWhat);
        holds("10, 0 none", SymbolLinkerBoundaries::noFault);
        holds("10, 1 ENTRY is no global label of a unit taken", SymbolLinkerBoundaries::faultOfEntry);
        holds("10, 2 two global labels of a name", SymbolLinkerBoundaries::faultOfTwoGlobals);
        holds("10, the first unit, and the least line", SymbolLinkerBoundaries::firstUnitAndLeastLineOfTwo);
        holds("10, 2 in units taken", SymbolLinkerBoundaries::twoGlobalsOfLibraries);
        holds("10, by units, what waits in needed sections", SymbolLinkerBoundaries::orderOfWaits);
        holds("10, by lines (of equal ones the one told first)", SymbolLinkerBoundaries::linesOfWaitsInUnits);
        holds("10, 3 missing and stands for nothing", SymbolLinkerBoundaries::faultThreeBeforeItsValue);
        holds("10, 5 more than 262144 bytes", SymbolLinkerBoundaries::faultOfSize);
        holds("10, 5 to the end of its last section", SymbolLinkerBoundaries::faultOfSizeInOtherParts);
        holds("10, 5 the largest of all", SymbolLinkerBoundaries::largestImageOfAll);
        holds("10, the first fault", SymbolLinkerBoundaries::firstOfAllFaults);
        holds("10, 0 and NONE for 1, 5 and none", SymbolLinkerBoundaries::lineAndUnitOfLaterFaults);
        holds("10, its unit: the last one", SymbolLinkerBoundaries::faultOfTheLastUnit);
        holds("10, Of the latest link()", SymbolLinkerBoundaries::faultIsOfTheLatestLink);
        holds("11, NONE if there is none such", SymbolLinkerBoundaries::neededOfNoneSuch);
        holds("11, 0 without one", SymbolLinkerBoundaries::neededWithoutLink);
        holds("11, 0 for units that came behind it", SymbolLinkerBoundaries::neededOfUnitsBehind);
        holds("11, no fault of kind 1 or 2", SymbolLinkerBoundaries::neededStaysWithFaults1And2);
        holds("11, faults of kinds 3, 4, 5", SymbolLinkerBoundaries::neededTellsOfFaults3To5);
        holds("11, the latest link()", SymbolLinkerBoundaries::neededIsOfTheLatest);
    }

    private static void promises12To15() {
        holds("12, NONE if there is none", SymbolLinkerBoundaries::octetsOutside);
        holds("12, byte i: 0 .. 255", SymbolLinkerBoundaries::octetsOfAllValues);
        holds("12, byte i: between sections and in bss", SymbolLinkerBoundaries::octetsBetweenAndInBss);
        holds("12, of the image, not of one before", SymbolLinkerBoundaries::octetsOfALaterImage);
        holds("13, also for n that is not 1 .. 8", SymbolLinkerBoundaries::addressesOfOtherLengths);
        holds("13, none", SymbolLinkerBoundaries::namesWithoutAddress);
        holds("13, the first global label, else weak one", SymbolLinkerBoundaries::globalElseWeak);
        holds("13, if it was not left out", SymbolLinkerBoundaries::namesLeftOut);
        holds("13, a name of many", SymbolLinkerBoundaries::manyNames);
        holds("13, in the image, not in one before", SymbolLinkerBoundaries::namesOfALaterImage);
        holds("14, NONE if nothing does", SymbolLinkerBoundaries::linesOutside);
        holds("14, 65536 * its unit + its line", SymbolLinkerBoundaries::linesOfTheLastUnit);
        holds("14, of the image's text", SymbolLinkerBoundaries::linesOfLeftOutText);
        holds("14, of the image, not of one before", SymbolLinkerBoundaries::linesOfALaterImage);
        holds("15, NONE for another what", SymbolLinkerBoundaries::partsOfAnotherWhat);
        holds("15, 0 without an image", SymbolLinkerBoundaries::partsWithoutImage);
        holds("15, parts of the largest image", SymbolLinkerBoundaries::partsOfTheLargestImage);
    }

    public static void main(String[] args) {
        promises1To5();
        promises6To8();
        promise9();
        promises10And11();
        promises12To15();
        System.out.println(sentences + " sentences, " + asked + " answers: "
                + (wrong == 0 ? "all as due" : wrong + " are not as due"));
        if (wrong != 0) {
            System.exit(1);
        }
    }
}
