import java.util.NoSuchElementException;

/** For each promise of the document: ordinary inputs, the edges it names, and wrong inputs. */
public final class SymbolLinkerPromises {
    private static final int THROWN = -1000;
    private static final int BASE = 0x400000;
    private static int wrong = 0;
    private static String promise = "";

    private static void due(String what, long got, long want) {
        if (got != want) {
            wrong++;
            System.out.println(promise + ": " + what + " answered " + got + ", due is " + want);
        }
    }

    private static void yes(String what, boolean got) {
        due(what, got ? 1 : 0, 1);
    }

    private static void no(String what, boolean got) {
        due(what, got ? 1 : 0, 0);
    }

    private static long word(String name) {
        long word = 0;
        for (int k = 0; k < name.length(); k++) {
            word = word << 8 | name.charAt(k);
        }
        return word;
    }

    private static int linked(SymbolLinker x) {
        try {
            return x.link();
        } catch (IllegalStateException e) {
            return THROWN;
        }
    }

    private static int addressOf(SymbolLinker x, long word, int n) {
        try {
            return x.address(word, n);
        } catch (NoSuchElementException e) {
            return THROWN;
        }
    }

    private static int addressOf(SymbolLinker x, String name) {
        return addressOf(x, word(name), name.length());
    }

    private static int local(SymbolLinker x, String name, int section, int place, int line) {
        return x.symbol(word(name), name.length(), 0, section, place, line);
    }

    private static int global(SymbolLinker x, String name, int section, int place, int line) {
        return x.symbol(word(name), name.length(), 1, section, place, line);
    }

    private static int weak(SymbolLinker x, String name, int section, int place, int line) {
        return x.symbol(word(name), name.length(), 2, section, place, line);
    }

    private static int missing(SymbolLinker x, String name) {
        return x.symbol(word(name), name.length(), 0, -1, 0, 0);
    }

    private static int weaklyMissing(SymbolLinker x, String name) {
        return x.symbol(word(name), name.length(), 2, -1, 0, 0);
    }

    /** A linker with one unit whose text of this size holds ENTRY at its beginning. */
    private static SymbolLinker withEntry(int text, int rodata, int data, int bss) {
        SymbolLinker x = new SymbolLinker();
        x.unit(false, text, rodata, data, bss);
        global(x, "start", 0, 0, 1);
        return x;
    }

    private static void dueFault(SymbolLinker x, int kind, int line, int unit) {
        due("fault(0)", x.fault(0), kind);
        due("fault(1)", x.fault(1), line);
        due("fault(2)", x.fault(2), unit);
    }

    private static void dueNeeded(SymbolLinker x, int u, int text, int rodata, int data, int bss) {
        due("needed(" + u + ", 0)", x.needed(u, 0), text);
        due("needed(" + u + ", 1)", x.needed(u, 1), rodata);
        due("needed(" + u + ", 2)", x.needed(u, 2), data);
        due("needed(" + u + ", 3)", x.needed(u, 3), bss);
    }

    private static long octets(SymbolLinker x, int from, int n) {
        long v = 0;
        for (int k = n - 1; k >= 0; k--) {
            v = v << 8 | x.octet(from + k);
        }
        return v;
    }

    private static void newObject() {
        SymbolLinker x = new SymbolLinker();
        due("NONE", SymbolLinker.NONE, -1);
        no("put", x.put(0, 0, 1, 1));
        no("keep", x.keep(0));
        due("symbol", global(x, "start", 0, 0, 1), -1);
        due("symbol missing", missing(x, "a"), -1);
        no("await", x.await(0, 0, 4, -1, -1, 0, 0));
        no("start", x.start(0, 0));
        due("needed", x.needed(0, 0), -1);
        due("octet", x.octet(0), -1);
        due("line", x.line(0), -1);
        due("address", addressOf(x, "start"), THROWN);
        dueFault(x, 0, 0, -1);
        for (int what = 0; what <= 6; what++) {
            due("part " + what, x.part(what), 0);
        }
        due("part(7)", x.part(7), -1);
        due("part(-1)", x.part(-1), -1);
        due("link", linked(x), THROWN);
        dueFault(x, 1, 0, -1);
    }

    private static void clearUnits() {
        SymbolLinker x = withEntry(8, 0, 0, 0);
        x.put(0, 0, 0x1122334455667788L, 8);
        x.start(2, 5);
        x.await(0, 0, 4, -1, -1, 9, 3);
        due("link", linked(x), 8);
        x.clear();
        due("part(6) of the image that stays", x.part(6), 8);
        due("octet of the image that stays", x.octet(0), 9);
        due("octet of the image that stays", x.octet(7), 0x11);
        due("line of the image that stays", x.line(2), 5);
        due("address in the image that stays", addressOf(x, "start"), BASE);
        dueFault(x, 0, 0, -1);
        due("needed of a unit that is gone", x.needed(0, 0), -1);
        no("put", x.put(0, 0, 1, 1));
        due("unit", x.unit(false, 8, 0, 0, 0), 0);
        due("needed of a unit behind the link", x.needed(0, 0), 0);
        due("symbol of a gone name", global(x, "start", 0, 4, 1), 0);
        due("link", linked(x), 8);
        due("bytes are 0 again", octets(x, 0, 8), 0);
        due("starts are gone", x.line(2), -1);
        due("address", addressOf(x, "start"), BASE + 4);
    }

    private static void unitLimits() {
        SymbolLinker x = new SymbolLinker();
        due("a size of -1", x.unit(false, -1, 0, 0, 0), -1);
        due("a size of -1", x.unit(false, 0, -1, 0, 0), -1);
        due("a size of -1", x.unit(false, 0, 0, -1, 0), -1);
        due("a size of -1", x.unit(false, 0, 0, 0, -1), -1);
        due("a size of 65537", x.unit(false, 65537, 0, 0, 0), -1);
        due("a size of 65537", x.unit(false, 0, 65537, 0, 0), -1);
        due("a size of 65537", x.unit(false, 0, 0, 65537, 0), -1);
        due("a size of 65537", x.unit(false, 0, 0, 0, 65537), -1);
        int most = Integer.MAX_VALUE;
        due("the largest sizes", x.unit(false, most, most, most, most), -1);
        due("the largest unit", x.unit(false, 65536, 65536, 65536, 65536), 0);
        due("a byte too many", x.unit(true, 1, 65535, 1, 0), -1);
        due("just all bytes", x.unit(true, 1, 65534, 1, 65536), 1);
        due("one byte more", x.unit(false, 0, 0, 1, 0), -1);
        due("bss does not count", x.unit(false, 0, 0, 0, 65536), 2);
        for (int k = 3; k < 32; k++) {
            due("unit " + k, x.unit(false, 0, 0, 0, 0), k);
        }
        due("unit 32", x.unit(false, 0, 0, 0, 0), -1);
        x.clear();
        due("the first unit again", x.unit(false, 65536, 65536, 65536, 65536), 0);
    }

    private static void putBytes() {
        SymbolLinker x = withEntry(10, 3, 8, 8);
        x.keep(1);
        x.keep(2);
        x.keep(3);
        yes("put 8", x.put(0, 2, 0x8877665544332211L, 8));
        yes("put 1 of a long", x.put(0, 0, 0x1234, 1));
        yes("put again", x.put(0, 3, -1, 1));
        yes("put 3", x.put(1, 0, 0xAABBCCDDL, 3));
        yes("put all of data", x.put(2, 0, -2, 8));
        no("put behind the end", x.put(0, 3, 0, 8));
        no("put before the beginning", x.put(0, -1, 0, 1));
        no("put at the end", x.put(1, 3, 0, 1));
        no("put far behind", x.put(0, Integer.MAX_VALUE, 0, 8));
        no("put far before", x.put(0, Integer.MIN_VALUE, 0, 8));
        no("put 0 bytes", x.put(0, 0, 0, 0));
        no("put 9 bytes", x.put(0, 0, 0, 9));
        no("put -1 bytes", x.put(0, 0, 0, -1));
        no("put to bss", x.put(3, 0, 0, 1));
        no("put to section -1", x.put(-1, 0, 0, 1));
        no("put to section 4", x.put(4, 0, 0, 1));
        due("link", linked(x), 0x2018);
        due("octet(0)", x.octet(0), 0x34);
        due("octet(1)", x.octet(1), 0);
        due("octets of text", octets(x, 2, 8), 0x887766554433FF11L);
        due("octets of rodata", octets(x, 0x1000, 4), 0xBBCCDDL);
        due("octets of data", octets(x, 0x2000, 8), -2);
        x.unit(false, 1, 0, 0, 0);
        yes("put to the latest unit", x.put(0, 0, 7, 1));
        no("put to an earlier unit", x.put(0, 1, 7, 1));
        x.keep(0);
        due("link", linked(x), 0x2018);
        due("octet(0) stays", x.octet(0), 0x34);
        due("octet(16)", x.octet(16), 7);
    }

    private static void keepSections() {
        SymbolLinker x = withEntry(1, 1, 1, 1);
        x.unit(true, 1, 1, 1, 1);
        yes("keep of a library unit", x.keep(0));
        x.unit(false, 1, 1, 1, 1);
        yes("keep(1)", x.keep(1));
        yes("keep(3)", x.keep(3));
        yes("keep(3) again", x.keep(3));
        no("keep(-1)", x.keep(-1));
        no("keep(4)", x.keep(4));
        due("link", linked(x), 0x2001);
        dueNeeded(x, 0, 1, 0, 0, 0);
        dueNeeded(x, 1, 0, 0, 0, 0);
        dueNeeded(x, 2, 0, 1, 0, 1);
    }

    private static void symbolNumbers() {
        SymbolLinker x = new SymbolLinker();
        x.unit(false, 4, 5, 6, 7);
        due("n 0", x.symbol(1, 0, 0, 0, 0, 0), -1);
        due("n 9", x.symbol(1, 9, 0, 0, 0, 0), -1);
        due("marks -1", x.symbol(1, 1, -1, 0, 0, 0), -1);
        due("marks 4", x.symbol(1, 1, 4, 0, 0, 0), -1);
        due("section -2", x.symbol(1, 1, 0, -2, 0, 0), -1);
        due("section 4", x.symbol(1, 1, 0, 4, 0, 0), -1);
        due("place -1", x.symbol(1, 1, 0, 0, -1, 0), -1);
        due("place 5 of 4", x.symbol(1, 1, 0, 0, 5, 0), -1);
        due("place 8 of 7", x.symbol(1, 1, 0, 3, 8, 0), -1);
        due("line -1", x.symbol(1, 1, 0, 0, 0, -1), -1);
        due("line 65536", x.symbol(1, 1, 0, 0, 0, 65536), -1);
        due("line 65536 of a missing one", x.symbol(1, 1, 0, -1, 0, 65536), -1);
        due("symbol 0", x.symbol(1, 1, 3, 0, 4, 65535), 0);
        due("the same name", x.symbol(1, 1, 0, -1, 0, 0), -1);
        due("the same name under other high bytes", x.symbol(0x101, 1, 0, 0, 0, 0), -1);
        due("a longer name", x.symbol(1, 2, 0, 1, 5, 0), 1);
        due("name of 8 bytes", x.symbol(-1, 8, 2, 2, 6, 0), 2);
        due("name of 7 bytes", x.symbol(-1, 7, 1, 3, 7, 0), 3);
        due("the same of 7 bytes", x.symbol(0xFFFFFFFFFFFFFFL, 7, 1, 3, 7, 0), -1);
        due("the same of 8 bytes", x.symbol(-1, 8, 1, 3, 7, 0), -1);
        x.unit(false, 0, 0, 0, 0);
        due("the name in another unit", x.symbol(1, 1, 0, -1, 0, 0), 0);
    }

    private static void symbolNames() {
        SymbolLinker x = withEntry(64, 0, 0, 0);
        x.symbol(0x6162, 2, 1, 0, 2, 0);
        x.symbol(0x616263, 3, 1, 0, 3, 0);
        x.symbol(0xFF62, 1, 1, 0, 4, 0);
        x.symbol(0x6162, 3, 1, 0, 5, 0);
        x.symbol(0x8000000000000000L, 8, 1, 0, 6, 0);
        due("link", linked(x), 64);
        due("ab", addressOf(x, "ab"), BASE + 2);
        due("ab under other high bytes", addressOf(x, 0x7777776162L, 2), BASE + 2);
        due("abc", addressOf(x, "abc"), BASE + 3);
        due("b", addressOf(x, "b"), BASE + 4);
        due("0ab", addressOf(x, 0x6162, 3), BASE + 5);
        due("8 bytes", addressOf(x, Long.MIN_VALUE, 8), BASE + 6);
        due("8 bytes less one", addressOf(x, Long.MIN_VALUE, 7), THROWN);
        due("a", addressOf(x, "a"), THROWN);
    }

    private static void awaitNumbers() {
        SymbolLinker x = new SymbolLinker();
        x.unit(false, 8, 4, 9, 16);
        global(x, "start", 0, 0, 1);
        missing(x, "m");
        yes("the first 8", x.await(0, 0, 8, -1, -1, 0, 0));
        yes("the last 4", x.await(0, 4, 4, 8, 1, 0, 65535));
        yes("all of rodata", x.await(1, 0, 4, 0, -5, 0, 0));
        yes("the last 8", x.await(2, 1, 8, 9, -2, 0, 0));
        no("section -1", x.await(-1, 0, 4, -1, -1, 0, 0));
        no("bss", x.await(3, 0, 4, -1, -1, 0, 0));
        no("section 4", x.await(4, 0, 4, -1, -1, 0, 0));
        no("place -1", x.await(0, -1, 4, -1, -1, 0, 0));
        no("4 behind the end", x.await(0, 5, 4, -1, -1, 0, 0));
        no("8 behind the end", x.await(0, 1, 8, -1, -1, 0, 0));
        no("8 of 4", x.await(1, 0, 8, -1, -1, 0, 0));
        no("far behind", x.await(0, Integer.MAX_VALUE, 8, -1, -1, 0, 0));
        no("size 0", x.await(0, 0, 0, -1, -1, 0, 0));
        no("size 1", x.await(0, 0, 1, -1, -1, 0, 0));
        no("size 5", x.await(0, 0, 5, -1, -1, 0, 0));
        no("size -4", x.await(0, 0, -4, -1, -1, 0, 0));
        no("next -2", x.await(0, 0, 4, -2, -1, 0, 0));
        no("next 9 of 8", x.await(0, 0, 4, 9, -1, 0, 0));
        no("next of another section", x.await(1, 0, 4, 5, -1, 0, 0));
        no("symbol 2 of 2", x.await(0, 0, 4, -1, 2, 0, 0));
        no("section 4 as what", x.await(0, 0, 4, -1, -6, 0, 0));
        no("the least what", x.await(0, 0, 4, -1, Integer.MIN_VALUE, 0, 0));
        no("the largest what", x.await(0, 0, 4, -1, Integer.MAX_VALUE, 0, 0));
        no("line -1", x.await(0, 0, 4, -1, -1, 0, -1));
        no("line 65536", x.await(0, 0, 4, -1, -1, 0, 65536));
        x.unit(false, 4, 0, 0, 0);
        no("a symbol of an earlier unit", x.await(0, 0, 4, -1, 0, 0, 0));
    }

    private static void awaitedValues() {
        SymbolLinker x = withEntry(64, 8, 16, 4);
        int label = local(x, "l", 2, 3, 0);
        int nothing = weaklyMissing(x, "w");
        x.put(0, 0, -1, 8);
        x.await(0, 0, 8, -1, -1, 0x1122334455667788L, 0);
        x.await(0, 8, 8, -1, label, -4, 0);
        x.await(0, 16, 4, 20, label, 0, 0);
        x.await(0, 20, 4, 64, -1, 0, 0);
        x.await(0, 24, 8, -1, nothing, 77, 0);
        x.await(0, 32, 4, -1, -3, 1, 0);
        x.await(0, 36, 4, 0, -2, 5, 0);
        x.await(0, 40, 8, -1, -5, Long.MAX_VALUE, 0);
        x.await(0, 48, 8, 3, nothing, 0, 0);
        x.await(2, 0, 8, 1, label, 0, 0);
        due("link", linked(x), 0x2014);
        due("a number", octets(x, 0, 8), 0x1122334455667788L);
        due("a label", octets(x, 8, 8), BASE + 0x2003 - 4);
        due("a label less the next", octets(x, 16, 4), 0x2003 - 20);
        due("a number less the next", octets(x, 20, 4), (long) -(BASE + 64) & 0xFFFFFFFFL);
        due("nothing is at 0", octets(x, 24, 8), 77);
        due("rodata", octets(x, 32, 4), BASE + 0x1001);
        due("text less itself", octets(x, 36, 4), 5);
        due("8 bytes may wrap", octets(x, 40, 8), Long.MAX_VALUE + BASE + 0x2010);
        due("nothing less the next", octets(x, 48, 8), -BASE - 3);
        due("in data", octets(x, 0x2000, 8), 2);
    }

    private static void latestAwaitCounts() {
        SymbolLinker x = withEntry(16, 0, 0, 0);
        x.await(0, 0, 8, -1, -1, 0x1111111111111111L, 9);
        x.await(0, 4, 8, -1, -1, 0x2222222222222222L, 1);
        x.await(0, 10, 4, -1, -1, 0x33333333, 5);
        x.put(0, 0, 0x4444, 2);
        due("link", linked(x), 16);
        due("the first half", octets(x, 0, 8), 0x2222222211111111L);
        due("the second half", octets(x, 8, 8), 0x333333332222L);
    }

    private static void startPlaces() {
        SymbolLinker x = withEntry(4, 8, 8, 8);
        yes("start(0)", x.start(0, 0));
        yes("start(3)", x.start(3, 65535));
        no("start(4) of 4", x.start(4, 1));
        no("start(-1)", x.start(-1, 1));
        no("line -1", x.start(1, -1));
        no("line 65536", x.start(1, 65536));
        x.unit(true, 9, 0, 0, 0);
        yes("start of a unit not taken", x.start(8, 3));
        x.unit(false, 0, 0, 0, 0);
        no("start of an empty text", x.start(0, 1));
    }

    private static void linkTakesUnits() {
        SymbolLinker x = withEntry(8, 0, 0, 0);
        missing(x, "a");
        weaklyMissing(x, "w");
        local(x, "d", 0, 0, 0);
        x.unit(true, 1, 0, 0, 0);
        weak(x, "b", 0, 0, 0);
        missing(x, "d");
        x.keep(0);
        x.unit(true, 1, 0, 0, 0);
        global(x, "w", 0, 0, 0);
        x.keep(0);
        x.unit(true, 1, 0, 0, 0);
        local(x, "a", 0, 0, 0);
        x.keep(0);
        x.unit(true, 1, 0, 0, 0);
        weak(x, "a", 0, 0, 0);
        missing(x, "b");
        x.keep(0);
        x.unit(true, 1, 0, 0, 0);
        global(x, "a", 0, 0, 0);
        x.keep(0);
        x.unit(true, 1, 0, 0, 0);
        global(x, "d", 0, 0, 0);
        x.keep(0);
        due("link", linked(x), 0x31);
        due("unit 1 has what unit 4 misses", x.needed(1, 0), 1);
        due("w is missing as weak alone", x.needed(2, 0), 0);
        due("a is local there", x.needed(3, 0), 0);
        due("a is weak there", x.needed(4, 0), 1);
        due("a is had already", x.needed(5, 0), 0);
        due("unit 1 misses d, local to unit 0", x.needed(6, 0), 1);
    }

    private static void linkTakesTheFirstAgain() {
        SymbolLinker x = withEntry(4, 0, 0, 0);
        missing(x, "a");
        missing(x, "b");
        x.unit(true, 1, 0, 0, 0);
        global(x, "c", 0, 0, 0);
        global(x, "b", 0, 0, 0);
        x.keep(0);
        x.unit(true, 1, 0, 0, 0);
        global(x, "a", 0, 0, 0);
        missing(x, "c");
        x.keep(0);
        x.unit(true, 1, 0, 0, 0);
        global(x, "b", 0, 0, 0);
        x.keep(0);
        due("link", linked(x), 0x21);
        due("b of the first", x.needed(1, 0), 1);
        due("a", x.needed(2, 0), 1);
        due("b of the last", x.needed(3, 0), 0);
        SymbolLinker y = withEntry(4, 0, 0, 0);
        missing(y, "a");
        missing(y, "e");
        y.unit(true, 1, 0, 0, 0);
        global(y, "c", 0, 0, 0);
        global(y, "f", 0, 0, 0);
        y.keep(0);
        y.unit(true, 1, 0, 0, 0);
        global(y, "a", 0, 0, 0);
        missing(y, "c");
        y.keep(0);
        y.unit(true, 1, 0, 0, 0);
        global(y, "e", 0, 0, 0);
        missing(y, "f");
        y.keep(0);
        y.unit(true, 1, 0, 0, 0);
        global(y, "f", 0, 0, 0);
        y.keep(0);
        due("link", linked(y), 0x31);
        due("f of the first", y.needed(1, 0), 1);
        due("f of the last", y.needed(4, 0), 0);
    }

    private static void linkGivesMeanings() {
        SymbolLinker x = new SymbolLinker();
        x.unit(true, 4, 0, 0, 0);
        weak(x, "v", 0, 1, 0);
        global(x, "z", 0, 0, 0);
        x.unit(false, 64, 0, 0, 0);
        global(x, "start", 0, 0, 0);
        int ownWeak = weak(x, "u", 0, 5, 0);
        int ownLocal = local(x, "k", 0, 6, 0);
        int otherWeak = weak(x, "v", 0, 7, 0);
        int ofUnit2 = missing(x, "g");
        int aloneWeak = weak(x, "o", 0, 9, 0);
        int missed = x.symbol(word("z"), 1, 1, -1, 0, 0);
        int weakly = weaklyMissing(x, "g2");
        x.await(0, 0, 4, -1, ownWeak, 0, 0);
        x.await(0, 4, 4, -1, ownLocal, 0, 0);
        x.await(0, 8, 4, -1, otherWeak, 0, 0);
        x.await(0, 12, 4, -1, ofUnit2, 0, 0);
        x.await(0, 16, 4, -1, aloneWeak, 0, 0);
        x.await(0, 20, 4, -1, missed, 0, 0);
        x.await(0, 24, 4, -1, weakly, 0, 0);
        x.unit(false, 16, 0, 0, 0);
        weak(x, "g", 0, 1, 0);
        global(x, "u", 0, 2, 0);
        global(x, "k", 0, 3, 0);
        x.symbol(word("g2"), 2, 3, 0, 4, 0);
        x.unit(false, 16, 0, 0, 0);
        global(x, "g", 0, 8, 0);
        due("link", linked(x), 0x70);
        int unit1 = BASE + 0x10;
        int unit2 = BASE + 0x50;
        int unit3 = BASE + 0x60;
        due("a global one goes before an own weak one", octets(x, 0x10, 4), unit2 + 2);
        due("a local label is itself", octets(x, 0x14, 4), unit1 + 6);
        due("the first weak one, by units", octets(x, 0x18, 4), BASE + 1);
        due("a later global one goes before a weak one", octets(x, 0x1c, 4), unit3 + 8);
        due("a weak label alone", octets(x, 0x20, 4), unit1 + 9);
        due("of the library", octets(x, 0x24, 4), BASE);
        due("missing as weak, and there", octets(x, 0x28, 4), unit2 + 4);
        due("part(5)", x.part(5), unit1);
    }

    private static void linkFindsNeeded() {
        SymbolLinker x = withEntry(8, 8, 8, 8);
        int there = missing(x, "t");
        x.await(2, 0, 4, -1, -5, 0, 0);
        x.await(1, 0, 4, -1, -4, 0, 0);
        x.await(0, 0, 4, -1, there, 0, 0);
        x.unit(false, 8, 8, 8, 8);
        global(x, "t", 1, 8, 0);
        int far = missing(x, "r");
        int overruled = weak(x, "s", 0, 0, 0);
        x.await(1, 0, 4, 8, overruled, 0, 0);
        x.await(2, 0, 4, -1, far, 0, 0);
        x.unit(false, 8, 8, 8, 8);
        global(x, "r", 2, 0, 0);
        global(x, "s", 3, 0, 0);
        due("link", linked(x), 0x2008);
        dueNeeded(x, 0, 1, 0, 0, 0);
        dueNeeded(x, 1, 0, 1, 0, 0);
        dueNeeded(x, 2, 0, 0, 0, 1);
        SymbolLinker y = withEntry(8, 8, 8, 8);
        y.await(2, 0, 4, -1, -5, 0, 0);
        y.await(1, 0, 4, -1, -4, 0, 0);
        y.await(0, 0, 4, -1, -3, 0, 0);
        due("link of a chain told backwards", linked(y), 0x2018);
        dueNeeded(y, 0, 1, 1, 1, 1);
    }

    private static void linkPlacesParts() {
        SymbolLinker x = withEntry(0x1000, 0x10, 0x1001, 5);
        x.keep(1);
        x.keep(2);
        x.keep(3);
        x.unit(false, 4, 7, 3, 2);
        x.keep(1);
        x.keep(2);
        x.keep(3);
        due("link", linked(x), 0x3032);
        due("end of text", x.part(0), BASE + 0x1000);
        due("beginning of rodata", x.part(1), BASE + 0x1000);
        due("end of rodata", x.part(2), BASE + 0x1017);
        due("beginning of data", x.part(3), BASE + 0x2000);
        due("end of bss", x.part(4), BASE + 0x3032);
        due("size", x.part(6), 0x3032);
        due("the last byte", x.octet(0x3031), 0);
        due("behind the last byte", x.octet(0x3032), -1);
    }

    private static void linkPlacesEmptyParts() {
        SymbolLinker x = withEntry(20, 0, 0, 0);
        due("text alone", linked(x), 20);
        due("end of text", x.part(0), BASE + 20);
        due("beginning of rodata", x.part(1), BASE + 0x1000);
        due("end of rodata", x.part(2), BASE + 0x1000);
        due("beginning of data", x.part(3), BASE + 0x1000);
        due("end of bss", x.part(4), BASE + 0x1000);
        due("size", x.part(6), 20);
        x.keep(2);
        due("an empty data section is one", linked(x), 0x1000);
        SymbolLinker y = new SymbolLinker();
        y.unit(false, 4, 4, 5, 4);
        global(y, "start", 2, 5, 0);
        due("data alone", linked(y), 5);
        due("end of text", y.part(0), BASE);
        due("beginning of data", y.part(3), BASE);
        due("end of bss, where data ends", y.part(4), BASE + 5);
        due("ENTRY at the end of data", y.part(5), BASE + 5);
        y.unit(false, 0, 0, 0, 0);
        y.keep(3);
        due("an empty bss section", linked(y), 16);
        due("end of bss", y.part(4), BASE + 16);
    }

    private static void linkFailsAndTheImageStays() {
        SymbolLinker x = withEntry(8, 0, 0, 0);
        x.put(0, 0, 99, 1);
        x.start(1, 4);
        due("link", linked(x), 8);
        x.put(0, 0, 55, 1);
        x.start(1, 7);
        global(x, "late", 0, 3, 0);
        x.await(0, 4, 4, -1, missing(x, "m"), 0, 6);
        due("link with a fault", linked(x), THROWN);
        dueFault(x, 3, 6, 0);
        due("octet(0)", x.octet(0), 99);
        due("line(1)", x.line(1), 4);
        due("part(6)", x.part(6), 8);
        due("start", addressOf(x, "start"), BASE);
        due("late", addressOf(x, "late"), THROWN);
        x.unit(false, 4, 0, 0, 0);
        global(x, "m", 0, 0, 0);
        due("link", linked(x), 20);
        dueFault(x, 0, 0, -1);
        due("octet(0)", x.octet(0), 55);
        due("line(1), the latest", x.line(1), 7);
        due("late", addressOf(x, "late"), BASE + 3);
    }

    private static void faultOfEntry() {
        SymbolLinker x = new SymbolLinker();
        x.unit(false, 8, 0, 0, 0);
        local(x, "start", 0, 0, 3);
        x.unit(false, 8, 0, 0, 0);
        x.symbol(word("start"), 5, 3, 0, 0, 4);
        x.unit(true, 8, 0, 0, 0);
        global(x, "start", 0, 0, 5);
        global(x, "a", 0, 0, 5);
        due("ENTRY is local, weak, or not taken", linked(x), THROWN);
        dueFault(x, 1, 0, -1);
        due("fault(3)", x.fault(3), -1);
        due("fault(-1)", x.fault(-1), -1);
        x.unit(false, 8, 0, 0, 0);
        x.symbol(word("start"), 5, 1, -1, 0, 0);
        missing(x, "a");
        due("ENTRY of a library", linked(x), 8);
        dueFault(x, 0, 0, -1);
        SymbolLinker y = new SymbolLinker();
        y.unit(false, 8, 0, 0, 0);
        y.symbol(0, 1, 1, -1, 0, 0);
        y.symbol(word("start"), 5, 1, -1, 0, 0);
        due("ENTRY is missing", linked(y), THROWN);
        dueFault(y, 1, 0, -1);
        global(y, "d", 0, 0, 2);
        y.unit(false, 8, 0, 0, 0);
        global(y, "d", 0, 0, 2);
        due("fault 1 goes before 2", linked(y), THROWN);
        dueFault(y, 1, 0, -1);
    }

    private static void faultOfTwoGlobals() {
        SymbolLinker x = withEntry(8, 0, 0, 0);
        global(x, "a", 0, 0, 1);
        global(x, "b", 0, 0, 2);
        x.await(0, 0, 4, -1, missing(x, "gone"), 0, 1);
        x.unit(true, 8, 0, 0, 0);
        global(x, "a", 0, 0, 0);
        x.unit(false, 8, 0, 0, 0);
        global(x, "c", 0, 0, 3);
        weak(x, "a", 0, 0, 4);
        local(x, "b", 0, 0, 5);
        x.unit(false, 8, 0, 0, 0);
        global(x, "fine", 0, 0, 6);
        global(x, "b", 0, 0, 30);
        global(x, "c", 0, 0, 20);
        global(x, "a", 0, 0, 25);
        x.unit(false, 8, 0, 0, 0);
        global(x, "b", 0, 0, 1);
        due("link", linked(x), THROWN);
        dueFault(x, 2, 20, 3);
        SymbolLinker y = withEntry(8, 0, 0, 0);
        y.unit(false, 8, 0, 0, 0);
        global(y, "start", 0, 0, 0);
        due("two ENTRY", linked(y), THROWN);
        dueFault(y, 2, 0, 1);
    }

    private static void faultOfWaits() {
        SymbolLinker x = withEntry(16, 4, 0, 0);
        x.await(1, 0, 4, -1, missing(x, "left"), 0, 0);
        x.unit(false, 16, 16, 0, 0);
        x.keep(0);
        x.keep(1);
        int gone = missing(x, "gone");
        x.await(0, 0, 4, -1, -1, 0, 3);
        x.await(0, 8, 4, -1, -1, 0x80000000L, 40);
        x.await(1, 0, 4, -1, gone, 0, 30);
        x.await(0, 4, 4, -1, -1, 0x80000000L, 30);
        x.unit(false, 16, 0, 0, 0);
        x.keep(0);
        x.await(0, 0, 4, -1, -1, Long.MIN_VALUE, 1);
        due("link", linked(x), THROWN);
        dueFault(x, 3, 30, 1);
        due("needed is told in spite of it", x.needed(1, 1), 1);
        due("needed is told in spite of it", x.needed(0, 1), 0);
        due("no image", x.part(6), 0);
        SymbolLinker y = withEntry(16, 0, 0, 0);
        y.await(0, 0, 4, -1, missing(y, "gone"), 0, 30);
        y.await(0, 4, 4, -1, -1, 1L << 40, 30);
        y.await(0, 8, 4, -1, -1, 1L << 40, 29);
        due("link", linked(y), THROWN);
        dueFault(y, 4, 29, 0);
    }

    private static void faultOfFit() {
        SymbolLinker x = withEntry(16, 0, 0, 0);
        yes("the largest", x.await(0, 0, 4, 0, 0, Integer.MAX_VALUE, 0));
        yes("the least", x.await(0, 4, 4, 0, 0, Integer.MIN_VALUE, 0));
        yes("the largest of 8", x.await(0, 8, 8, -1, -1, Long.MAX_VALUE, 0));
        due("link", linked(x), 16);
        due("the largest", octets(x, 0, 4), 0x7FFFFFFFL);
        due("the least", octets(x, 4, 4), 0x80000000L);
        due("the largest of 8", octets(x, 8, 8), Long.MAX_VALUE);
        x.await(0, 0, 4, 0, 0, 0x80000000L, 8);
        due("one more than the largest", linked(x), THROWN);
        dueFault(x, 4, 8, 0);
        SymbolLinker y = withEntry(16, 0, 0, 0);
        y.await(0, 0, 4, 0, 0, Integer.MIN_VALUE - 1L, 9);
        due("one less than the least", linked(y), THROWN);
        dueFault(y, 4, 9, 0);
    }

    private static void faultOfSize() {
        SymbolLinker x = new SymbolLinker();
        x.unit(false, 65536, 65536, 65536, 65536);
        global(x, "start", 0, 0, 1);
        x.keep(1);
        x.keep(2);
        x.keep(3);
        due("just as large as may be", linked(x), 262144);
        due("the last byte", x.octet(262143), 0);
        due("behind it", x.octet(262144), -1);
        x.unit(false, 0, 0, 0, 0);
        x.keep(3);
        due("an empty section at the end", linked(x), 262144);
        x.unit(false, 0, 0, 0, 1);
        x.keep(3);
        due("one byte more", linked(x), THROWN);
        dueFault(x, 5, 0, -1);
        due("needed is told in spite of it", x.needed(2, 3), 1);
        due("the image stays", x.part(6), 262144);
        x.unit(false, 0, 4, 0, 0);
        x.unit(false, 0, 0, 0, 4);
        global(x, "d", 3, 0, 0);
        due("without a fault before", linked(x), THROWN);
        dueFault(x, 5, 0, -1);
        SymbolLinker y = withEntry(65536, 0, 0, 65536);
        y.await(0, 0, 4, -1, missing(y, "m"), 0, 12);
        y.keep(3);
        for (int k = 0; k < 4; k++) {
            y.unit(false, 0, 0, 0, 65536);
            y.keep(3);
        }
        due("fault 3 goes before 5", linked(y), THROWN);
        dueFault(y, 3, 12, 0);
    }

    private static void neededOfTheLatestGoodEnough() {
        SymbolLinker x = new SymbolLinker();
        x.unit(false, 4, 4, 0, 0);
        due("without a link", x.needed(0, 0), 0);
        x.keep(1);
        linked(x);
        due("fault 1 tells nothing", x.needed(0, 1), 0);
        global(x, "start", 0, 0, 0);
        due("link", linked(x), 0x1004);
        dueNeeded(x, 0, 1, 1, 0, 0);
        x.keep(2);
        due("keep behind the link", x.needed(0, 2), 0);
        x.unit(false, 4, 0, 0, 0);
        x.keep(0);
        dueNeeded(x, 1, 0, 0, 0, 0);
        global(x, "start", 0, 0, 0);
        due("link", linked(x), THROWN);
        due("fault(0)", x.fault(0), 2);
        dueNeeded(x, 0, 1, 1, 0, 0);
        dueNeeded(x, 1, 0, 0, 0, 0);
        due("unit -1", x.needed(-1, 0), -1);
        due("unit 2", x.needed(2, 0), -1);
        due("section -1", x.needed(0, -1), -1);
        due("section 4", x.needed(0, 4), -1);
        due("far off", x.needed(Integer.MAX_VALUE, Integer.MIN_VALUE), -1);
    }

    private static void octetsOfTheImage() {
        SymbolLinker x = withEntry(3, 0, 0, 0);
        x.put(0, 0, -1, 3);
        due("link", linked(x), 3);
        due("octet(0)", x.octet(0), 255);
        due("octet(2)", x.octet(2), 255);
        due("octet(3)", x.octet(3), -1);
        due("octet(-1)", x.octet(-1), -1);
        due("the largest", x.octet(Integer.MAX_VALUE), -1);
        due("the least", x.octet(Integer.MIN_VALUE), -1);
        x.unit(false, 1, 1, 0, 0);
        x.keep(0);
        x.keep(1);
        x.put(0, 0, 17, 1);
        due("link", linked(x), 0x1001);
        due("between sections", x.octet(3), 0);
        due("octet(16)", x.octet(16), 17);
        due("between parts", x.octet(0xFFF), 0);
        x.clear();
        x.unit(false, 2, 0, 0, 0);
        global(x, "start", 0, 0, 0);
        due("link to less", linked(x), 2);
        due("no old byte", x.octet(0), 0);
        due("no old end", x.octet(2), -1);
        x.unit(false, 2, 0, 0, 0);
        x.keep(0);
        due("link to more", linked(x), 18);
        due("no old byte between", x.octet(2), 0);
    }

    private static void addressesOfNames() {
        SymbolLinker x = withEntry(8, 8, 8, 8);
        local(x, "local", 0, 1, 0);
        global(x, "end", 0, 8, 0);
        weak(x, "two", 0, 2, 0);
        weak(x, "weak", 0, 3, 0);
        global(x, "left", 1, 0, 0);
        weak(x, "both", 0, 4, 0);
        weak(x, "low", 2, 0, 0);
        missing(x, "miss");
        weaklyMissing(x, "none");
        x.unit(false, 8, 0, 0, 0);
        x.keep(0);
        global(x, "two", 0, 2, 0);
        weak(x, "weak", 0, 3, 0);
        weak(x, "left", 0, 4, 0);
        weak(x, "low", 0, 5, 0);
        global(x, "miss", 0, 6, 0);
        x.unit(false, 0, 4, 0, 0);
        global(x, "both", 1, 4, 0);
        x.unit(true, 8, 0, 0, 0);
        x.keep(0);
        global(x, "lib", 0, 0, 0);
        due("before link", addressOf(x, "start"), THROWN);
        due("link", linked(x), 24);
        due("start", addressOf(x, "start"), BASE);
        due("local", addressOf(x, "local"), THROWN);
        due("end", addressOf(x, "end"), BASE + 8);
        due("two, the global one", addressOf(x, "two"), BASE + 18);
        due("weak, the first one", addressOf(x, "weak"), BASE + 3);
        due("left out", addressOf(x, "left"), THROWN);
        due("both, the global one left out", addressOf(x, "both"), THROWN);
        due("low, the first weak one left out", addressOf(x, "low"), THROWN);
        due("miss", addressOf(x, "miss"), BASE + 22);
        due("none", addressOf(x, "none"), THROWN);
        due("lib is not taken", addressOf(x, "lib"), THROWN);
        due("n 0", addressOf(x, 0, 0), THROWN);
        due("n 9", addressOf(x, word("start"), 9), THROWN);
        due("n -1", addressOf(x, word("start"), -1), THROWN);
        due("n 6", addressOf(x, word("start"), 6), THROWN);
    }

    private static void linesOfStarts() {
        SymbolLinker x = withEntry(20, 0, 0, 0);
        x.start(0, 65535);
        x.start(7, 3);
        x.start(19, 4);
        x.start(7, 2);
        x.unit(false, 8, 0, 0, 0);
        x.start(0, 1);
        x.unit(false, 8, 0, 0, 0);
        x.keep(0);
        x.start(0, 65535);
        x.start(1, 0);
        due("before link", x.line(0), -1);
        due("link", linked(x), 40);
        due("line(0)", x.line(0), 65535);
        due("line(7), the latest", x.line(7), 2);
        due("line(19)", x.line(19), 4);
        due("line(1)", x.line(1), -1);
        due("line(32)", x.line(32), 2 * 65536 + 65535);
        due("line(33)", x.line(33), 2 * 65536);
        due("line(40)", x.line(40), -1);
        due("line(-1)", x.line(-1), -1);
        due("by the address", x.line(BASE), -1);
        due("the largest", x.line(Integer.MAX_VALUE), -1);
    }

    private static void partsOfTheImage() {
        SymbolLinker x = new SymbolLinker();
        x.unit(false, 5, 6, 7, 8);
        global(x, "start", 1, 2, 0);
        linked(x);
        due("size", x.part(6), 6);
        x.keep(0);
        x.keep(2);
        x.keep(3);
        due("link", linked(x), 0x2018);
        due("part(0)", x.part(0), BASE + 5);
        due("part(1)", x.part(1), BASE + 0x1000);
        due("part(2)", x.part(2), BASE + 0x1006);
        due("part(3)", x.part(3), BASE + 0x2000);
        due("part(4)", x.part(4), BASE + 0x2018);
        due("part(5)", x.part(5), BASE + 0x1002);
        due("part(6)", x.part(6), 0x2018);
        due("part(7)", x.part(7), -1);
        due("part(-1)", x.part(-1), -1);
        SymbolLinker y = withEntry(5, 0, 0, 0);
        y.await(0, 0, 4, -1, missing(y, "m"), 0, 0);
        linked(y);
        for (int what = 0; what <= 6; what++) {
            due("part " + what + " behind a fault", y.part(what), 0);
        }
    }

    public static void main(String[] args) {
        promise = "promise 1";
        newObject();
        promise = "promise 2";
        clearUnits();
        promise = "promise 3";
        unitLimits();
        promise = "promise 4";
        putBytes();
        promise = "promise 5";
        keepSections();
        promise = "promise 6";
        symbolNumbers();
        symbolNames();
        promise = "promise 7";
        awaitNumbers();
        awaitedValues();
        latestAwaitCounts();
        promise = "promise 8";
        startPlaces();
        promise = "promise 9";
        linkTakesUnits();
        linkTakesTheFirstAgain();
        linkGivesMeanings();
        linkFindsNeeded();
        linkPlacesParts();
        linkPlacesEmptyParts();
        linkFailsAndTheImageStays();
        promise = "promise 10";
        faultOfEntry();
        faultOfTwoGlobals();
        faultOfWaits();
        faultOfFit();
        faultOfSize();
        promise = "promise 11";
        neededOfTheLatestGoodEnough();
        promise = "promise 12";
        octetsOfTheImage();
        promise = "promise 13";
        addressesOfNames();
        promise = "promise 14";
        linesOfStarts();
        promise = "promise 15";
        partsOfTheImage();
        System.out.println(wrong == 0 ? "all promises hold" : wrong + " answers are not as due");
        if (wrong != 0) {
            System.exit(1);
        }
    }
}
