import java.util.Arrays;
import java.util.NoSuchElementException;

/** Links units of sections, symbols and waiting values to an image. */
public final class SymbolLinker {
    public static final int NONE = -1;

    private static final int TEXT = 0;
    private static final int RODATA = 1;
    private static final int DATA = 2;
    private static final int BSS = 3;
    private static final int KINDS = 4;

    private static final int MOST_UNITS = 32;
    private static final int MOST_SYMBOLS = 2048;
    private static final int MOST_WAITS = 4096;
    private static final int MOST_STARTS = 8192;
    private static final int MOST_SECTION_BYTES = 65536;
    private static final int MOST_BYTES = 262144;
    private static final int MOST_LINE = 65535;
    private static final int MOST_NAME_BYTES = 8;

    private static final int GLOBAL = 1;
    private static final int WEAK = 2;

    private static final int BASE = 0x400000;
    private static final int PAGE = 4096;
    private static final int STEP = 16;
    private static final long ENTRY_WORD = 0x7374617274L;
    private static final int ENTRY_LENGTH = 5;

    private static final int NO_FAULT = 0;
    private static final int NO_ENTRY = 1;
    private static final int TWO_GLOBALS = 2;
    private static final int NO_MEANING = 3;
    private static final int NO_FIT = 4;
    private static final int TOO_LARGE = 5;

    private static final int TEXT_END = 0;
    private static final int RODATA_BEGIN = 1;
    private static final int RODATA_END = 2;
    private static final int DATA_BEGIN = 3;
    private static final int BSS_END = 4;
    private static final int ENTRY = 5;
    private static final int SIZE = 6;
    private static final int PARTS = 7;

    // What a run makes is counted: rows are made here, as long as their limits, and no call makes longer ones.
    private final Unit[] units;
    private final Name[] names;
    private final Symbol[] symbols;
    private final Wait[] waits;
    private final Start[] starts;
    // The bytes of all sections but bss, one section behind the other.
    private final byte[] bytes;
    private final Fault latestFault;
    private final Image image;
    // The parts of the link under way: the image's own must stay if it fails.
    private final int[] plan;
    private int unitCount;
    private int nameCount;
    private int symbolCount;
    private int waitCount;
    private int startCount;
    private int bytesUsed;
    private int lastEnd;

    public SymbolLinker() {
        units = new Unit[MOST_UNITS];
        names = new Name[MOST_SYMBOLS];
        symbols = new Symbol[MOST_SYMBOLS];
        waits = new Wait[MOST_WAITS];
        starts = new Start[MOST_STARTS];
        bytes = new byte[MOST_BYTES];
        latestFault = new Fault();
        image = new Image();
        plan = new int[PARTS];
        unitCount = 0;
        nameCount = 0;
        symbolCount = 0;
        waitCount = 0;
        startCount = 0;
        bytesUsed = 0;
        lastEnd = BASE;
    }

    public void clear() {
        unitCount = 0;
        nameCount = 0;
        symbolCount = 0;
        waitCount = 0;
        startCount = 0;
        bytesUsed = 0;
    }

    public int unit(boolean library, int text, int rodata, int data, int bss) {
        if (!isSectionSize(text) || !isSectionSize(rodata) || !isSectionSize(data) || !isSectionSize(bss)) {
            return NONE;
        }
        int more = text + rodata + data;
        if (more > MOST_BYTES - bytesUsed || unitCount >= MOST_UNITS) {
            return NONE;
        }
        Unit unit = new Unit(unitCount, library, symbols, symbolCount);
        addSection(unit, TEXT, text);
        addSection(unit, RODATA, rodata);
        addSection(unit, DATA, data);
        unit.sections[BSS] = new Section(unit, bss, 0);
        units[unitCount] = unit;
        unitCount++;
        return unit.number;
    }

    public boolean put(int section, int place, long v, int n) {
        Section home = latestSection(section);
        if (home == null || section == BSS || n < 1 || n > 8 || !home.holds(place, n)) {
            return false;
        }
        storeLowestFirst(bytes, home.firstByte + place, v, n);
        return true;
    }

    public boolean keep(int section) {
        Section home = latestSection(section);
        if (home == null) {
            return false;
        }
        home.kept = true;
        return true;
    }

    public int symbol(long word, int n, int marks, int section, int place, int line) {
        Unit unit = latestUnit();
        if (unit == null || symbolCount >= MOST_SYMBOLS || !isNameLength(n)) {
            return NONE;
        }
        if (marks < 0 || marks > (GLOBAL | WEAK) || !isLine(line)) {
            return NONE;
        }
        Section home = latestSection(section);
        if (section != NONE && (home == null || !home.hasPlace(place))) {
            return NONE;
        }
        Name name = findName(word, n);
        if (name != null && unit.hasSymbol(name)) {
            return NONE;
        }
        if (name == null) {
            name = addName(nameWord(word, n), n);
        }
        symbols[symbolCount] = new Symbol(name, marks, home, place, line);
        symbolCount++;
        unit.symbolsEnd = symbolCount;
        return symbolCount - 1 - unit.symbolsBegin;
    }

    public boolean await(int section, int place, int size, int next, int what, long v, int line) {
        Unit unit = latestUnit();
        Section home = latestSection(section);
        if (unit == null || home == null || section == BSS || waitCount >= MOST_WAITS) {
            return false;
        }
        if ((size != 4 && size != 8) || !home.holds(place, size) || !isLine(line)) {
            return false;
        }
        if (next != NONE && !home.hasPlace(next)) {
            return false;
        }
        Symbol symbol = unit.symbolNumbered(what);
        Section beginning = what < NONE ? unit.sectionOfKind(-2 - what) : null;
        if (what != NONE && symbol == null && beginning == null) {
            return false;
        }
        Wait wait = new Wait(home, place, size, v, line);
        wait.next = next;
        wait.symbol = symbol;
        wait.beginning = beginning;
        waits[waitCount] = wait;
        waitCount++;
        return true;
    }

    public boolean start(int place, int line) {
        Section text = latestSection(TEXT);
        if (text == null || !text.holds(place, 1) || !isLine(line) || startCount >= MOST_STARTS) {
            return false;
        }
        starts[startCount] = new Start(text, place, line);
        startCount++;
        return true;
    }

    public int link() throws IllegalStateException {
        latestFault.tell(NO_FAULT, 0, NONE);
        takeUnits();
        bindNames();
        Symbol entry = entryLabel();
        if (entry == null) {
            latestFault.tell(NO_ENTRY, 0, NONE);
        } else {
            findTwoGlobals();
        }
        if (entry != null && latestFault.kind == NO_FAULT) {
            findNeeded(entry.section);
            placeParts(entry);
            findWaitFault();
        }
        if (latestFault.kind == NO_FAULT && plan[SIZE] > MOST_BYTES) {
            latestFault.tell(TOO_LARGE, 0, NONE);
        }
        if (latestFault.kind != NO_FAULT) {
            throw new IllegalStateException("the units have a fault");
        }
        makeImage();
        return plan[SIZE];
    }

    public int fault(int what) {
        switch (what) {
            case 0:
                return latestFault.kind;
            case 1:
                return latestFault.line;
            case 2:
                return latestFault.unit;
            default:
                return NONE;
        }
    }

    public int needed(int u, int section) {
        if (u < 0 || u >= unitCount) {
            return NONE;
        }
        Section asked = units[u].sectionOfKind(section);
        if (asked == null) {
            return NONE;
        }
        return asked.needed ? 1 : 0;
    }

    public int octet(int i) {
        if (i < 0 || i >= image.parts[SIZE]) {
            return NONE;
        }
        return image.bytes[i] & 0xff;
    }

    public int address(long word, int n) throws NoSuchElementException {
        int row = isNameLength(n) ? image.rowOfName(nameWord(word, n), n) : NONE;
        if (row == NONE) {
            throw new NoSuchElementException("the image has no such name");
        }
        return image.nameAddresses[row];
    }

    public int line(int i) {
        for (int row = image.startCount - 1; row >= 0; row--) {
            if (image.startOffsets[row] == i) {
                return image.startLines[row];
            }
        }
        return NONE;
    }

    public int part(int what) {
        if (what < 0 || what >= PARTS) {
            return NONE;
        }
        return image.parts[what];
    }

    private static boolean isSectionSize(int size) {
        return size >= 0 && size <= MOST_SECTION_BYTES;
    }

    private static boolean isLine(int line) {
        return line >= 0 && line <= MOST_LINE;
    }

    private static boolean isNameLength(int n) {
        return n >= 1 && n <= MOST_NAME_BYTES;
    }

    private static long nameWord(long word, int n) {
        // A shift by 64 would be one by 0 in Java.
        return n >= MOST_NAME_BYTES ? word : word & ((1L << (8 * n)) - 1);
    }

    private static int roundUp(int number, int step) {
        return (number + step - 1) & -step;
    }

    private static void storeLowestFirst(byte[] row, int from, long v, int n) {
        for (int k = 0; k < n; k++) {
            row[from + k] = (byte) (v >> (8 * k));
        }
    }

    private Unit latestUnit() {
        return unitCount == 0 ? null : units[unitCount - 1];
    }

    private Section latestSection(int kind) {
        Unit unit = latestUnit();
        return unit == null ? null : unit.sectionOfKind(kind);
    }

    private void addSection(Unit unit, int kind, int size) {
        int end = bytesUsed + size;
        // What units that clear() took away have left there goes.
        Arrays.fill(bytes, bytesUsed, end, (byte) 0);
        unit.sections[kind] = new Section(unit, size, bytesUsed);
        bytesUsed = end;
    }

    private Name findName(long word, int n) {
        long wanted = nameWord(word, n);
        for (int k = 0; k < nameCount; k++) {
            Name name = names[k];
            if (name.word == wanted && name.length == n) {
                return name;
            }
        }
        return null;
    }

    private Name addName(long word, int n) {
        Name name = new Name(word, n);
        // Every name is some symbol's: there are never more of them than symbols.
        if (nameCount < MOST_SYMBOLS) {
            names[nameCount] = name;
            nameCount++;
        }
        return name;
    }

    private Symbol entryLabel() {
        Name name = findName(ENTRY_WORD, ENTRY_LENGTH);
        return name == null ? null : name.firstGlobal;
    }

    private void takeUnits() {
        for (int k = 0; k < nameCount; k++) {
            names[k].forget();
        }
        for (int k = 0; k < unitCount; k++) {
            Unit unit = units[k];
            unit.taken = false;
            if (!unit.library) {
                unit.take();
            }
        }
        Unit wanted = firstWantedUnit();
        for (int round = 0; round < MOST_UNITS && wanted != null; round++) {
            wanted.take();
            wanted = firstWantedUnit();
        }
    }

    private Unit firstWantedUnit() {
        for (int k = 0; k < unitCount; k++) {
            Unit unit = units[k];
            if (!unit.taken && unit.isWanted()) {
                return unit;
            }
        }
        return null;
    }

    private void bindNames() {
        for (int k = 0; k < unitCount; k++) {
            Unit unit = units[k];
            if (unit.taken) {
                unit.bindLabels();
            }
        }
    }

    private void findTwoGlobals() {
        for (int k = 0; k < unitCount; k++) {
            Unit unit = units[k];
            int line = unit.taken ? unit.leastLineOfSecondGlobals() : NONE;
            if (line != NONE) {
                latestFault.tell(TWO_GLOBALS, line, k);
                return;
            }
        }
    }

    private void findNeeded(Section entrySection) {
        for (int k = 0; k < unitCount; k++) {
            units[k].needKeptAlone();
        }
        if (entrySection != null) {
            entrySection.needed = true;
        }
        boolean more = true;
        for (int round = 0; round <= MOST_UNITS * KINDS && more; round++) {
            more = needWhatNeededOnesAwait();
        }
    }

    private boolean needWhatNeededOnesAwait() {
        boolean found = false;
        for (int k = 0; k < waitCount; k++) {
            Wait wait = waits[k];
            Section target = wait.home.needed ? wait.target() : null;
            if (target != null && !target.needed) {
                target.needed = true;
                found = true;
            }
        }
        return found;
    }

    private void placeParts(Symbol entry) {
        lastEnd = BASE;
        plan[TEXT_END] = placeSections(TEXT, BASE);
        plan[RODATA_BEGIN] = roundUp(plan[TEXT_END], PAGE);
        plan[RODATA_END] = placeSections(RODATA, plan[RODATA_BEGIN]);
        plan[DATA_BEGIN] = roundUp(plan[RODATA_END], PAGE);
        int dataEnd = placeSections(DATA, plan[DATA_BEGIN]);
        plan[BSS_END] = placeSections(BSS, dataEnd);
        plan[ENTRY] = entry.placeInImage();
        plan[SIZE] = lastEnd - BASE;
    }

    private int placeSections(int kind, int begin) {
        int end = begin;
        for (int k = 0; k < unitCount; k++) {
            Section section = units[k].sectionOfKind(kind);
            if (section != null && section.needed) {
                section.begin = roundUp(end, STEP);
                end = section.begin + section.size;
                lastEnd = end;
            }
        }
        return end;
    }

    private void findWaitFault() {
        Wait first = null;
        for (int k = 0; k < waitCount; k++) {
            Wait wait = waits[k];
            if (wait.home.needed && wait.faultKind() != NO_FAULT && (first == null || wait.isBefore(first))) {
                first = wait;
            }
        }
        if (first != null) {
            latestFault.tell(first.faultKind(), first.line, first.home.unit.number);
        }
    }

    private void makeImage() {
        image.begin(plan);
        for (int k = 0; k < unitCount; k++) {
            copySections(units[k]);
        }
        for (int k = 0; k < waitCount; k++) {
            Wait wait = waits[k];
            if (wait.home.needed) {
                storeLowestFirst(image.bytes, wait.home.begin - BASE + wait.place, wait.value(), wait.size);
            }
        }
        for (int k = 0; k < nameCount; k++) {
            Name name = names[k];
            Symbol label = name.meaning();
            if (label != null && label.section != null && label.section.needed) {
                image.addName(name, label.placeInImage());
            }
        }
        for (int k = 0; k < startCount; k++) {
            Start start = starts[k];
            if (start.text.needed) {
                image.addStart(start);
            }
        }
    }

    private void copySections(Unit unit) {
        for (int kind = TEXT; kind < BSS; kind++) {
            Section section = unit.sectionOfKind(kind);
            if (section != null && section.needed) {
                System.arraycopy(bytes, section.firstByte, image.bytes, section.begin - BASE, section.size);
            }
        }
    }

    private static final class Unit {
        final int number;
        final boolean library;
        final Section[] sections;
        // The row of all units' symbols: the latest unit alone gets more, so each one's stand together.
        final Symbol[] symbols;
        final int symbolsBegin;
        int symbolsEnd;
        boolean taken;

        Unit(int number, boolean library, Symbol[] symbols, int symbolsBegin) {
            this.number = number;
            this.library = library;
            sections = new Section[KINDS];
            this.symbols = symbols;
            this.symbolsBegin = symbolsBegin;
            symbolsEnd = symbolsBegin;
            taken = false;
        }

        Section sectionOfKind(int kind) {
            return kind < 0 || kind >= sections.length ? null : sections[kind];
        }

        Symbol symbolNumbered(int k) {
            return k < 0 || k >= symbolsEnd - symbolsBegin ? null : symbols[symbolsBegin + k];
        }

        boolean hasSymbol(Name name) {
            for (int k = symbolsBegin; k < symbolsEnd; k++) {
                if (symbols[k].name == name) {
                    return true;
                }
            }
            return false;
        }

        void take() {
            taken = true;
            for (int k = symbolsBegin; k < symbolsEnd; k++) {
                Symbol symbol = symbols[k];
                if (symbol.isSharedLabel()) {
                    symbol.name.had = true;
                } else if (symbol.isMissed()) {
                    symbol.name.missed = true;
                }
            }
        }

        boolean isWanted() {
            for (int k = symbolsBegin; k < symbolsEnd; k++) {
                Symbol symbol = symbols[k];
                if (symbol.isSharedLabel() && symbol.name.missed && !symbol.name.had) {
                    return true;
                }
            }
            return false;
        }

        void bindLabels() {
            for (int k = symbolsBegin; k < symbolsEnd; k++) {
                Symbol symbol = symbols[k];
                if (symbol.isSharedLabel()) {
                    symbol.name.bind(symbol);
                }
            }
        }

        int leastLineOfSecondGlobals() {
            int least = NONE;
            for (int k = symbolsBegin; k < symbolsEnd; k++) {
                Symbol symbol = symbols[k];
                boolean second = symbol.isGlobalLabel() && symbol.name.firstGlobal != symbol;
                if (second && (least == NONE || symbol.line < least)) {
                    least = symbol.line;
                }
            }
            return least;
        }

        void needKeptAlone() {
            for (int kind = 0; kind < sections.length; kind++) {
                Section section = sections[kind];
                if (section != null) {
                    section.needed = taken && section.kept;
                }
            }
        }
    }

    private static final class Section {
        final Unit unit;
        final int size;
        final int firstByte;
        boolean kept;
        // Of the latest link without a fault of kind 1 or 2: no other touches it.
        boolean needed;
        int begin;

        Section(Unit unit, int size, int firstByte) {
            this.unit = unit;
            this.size = size;
            this.firstByte = firstByte;
            kept = false;
            needed = false;
            begin = 0;
        }

        boolean holds(int place, int n) {
            return place >= 0 && place <= size - n;
        }

        boolean hasPlace(int place) {
            return holds(place, 0);
        }
    }

    /** One for all symbols of a name, so that a link finds its meaning once. */
    private static final class Name {
        final long word;
        final int length;
        boolean missed;
        boolean had;
        Symbol firstGlobal;
        Symbol firstWeak;

        Name(long word, int length) {
            this.word = word;
            this.length = length;
            missed = false;
            had = false;
            firstGlobal = null;
            firstWeak = null;
        }

        void forget() {
            missed = false;
            had = false;
            firstGlobal = null;
            firstWeak = null;
        }

        void bind(Symbol label) {
            if (label.weak && firstWeak == null) {
                firstWeak = label;
            } else if (!label.weak && firstGlobal == null) {
                firstGlobal = label;
            }
        }

        Symbol meaning() {
            return firstGlobal != null ? firstGlobal : firstWeak;
        }
    }

    private static final class Symbol {
        final Name name;
        final boolean global;
        final boolean weak;
        // null: the symbol is missing
        final Section section;
        final int place;
        final int line;

        Symbol(Name name, int marks, Section section, int place, int line) {
            this.name = name;
            weak = (marks & WEAK) != 0;
            global = (marks & GLOBAL) != 0 && !weak;
            this.section = section;
            this.place = place;
            this.line = line;
        }

        boolean isGlobalLabel() {
            return section != null && global;
        }

        boolean isSharedLabel() {
            return section != null && (global || weak);
        }

        boolean isMissed() {
            return section == null && !weak;
        }

        Symbol standsFor() {
            return section != null && !weak ? this : name.meaning();
        }

        int placeInImage() {
            return section == null ? 0 : section.begin + place;
        }
    }

    private static final class Wait {
        final Section home;
        final int place;
        final int size;
        final long number;
        final int line;
        int next;
        // At most one of the two is there.
        Symbol symbol;
        Section beginning;

        Wait(Section home, int place, int size, long number, int line) {
            this.home = home;
            this.place = place;
            this.size = size;
            this.number = number;
            this.line = line;
            next = NONE;
            symbol = null;
            beginning = null;
        }

        Section target() {
            if (symbol == null) {
                return beginning;
            }
            Symbol label = symbol.standsFor();
            return label == null ? null : label.section;
        }

        long value() {
            long sum = number;
            Symbol label = symbol == null ? null : symbol.standsFor();
            if (label != null) {
                sum += label.placeInImage();
            } else if (beginning != null) {
                sum += beginning.begin;
            }
            return next == NONE ? sum : sum - (home.begin + next);
        }

        int faultKind() {
            if (symbol != null && symbol.isMissed() && symbol.standsFor() == null) {
                return NO_MEANING;
            }
            long value = value();
            return size == 4 && value != (int) value ? NO_FIT : NO_FAULT;
        }

        boolean isBefore(Wait other) {
            if (home.unit.number != other.home.unit.number) {
                return home.unit.number < other.home.unit.number;
            }
            return line < other.line;
        }
    }

    private static final class Start {
        final Section text;
        final int place;
        final int line;

        Start(Section text, int place, int line) {
            this.text = text;
            this.place = place;
            this.line = line;
        }
    }

    private static final class Fault {
        int kind;
        int line;
        int unit;

        Fault() {
            kind = NO_FAULT;
            line = 0;
            unit = NONE;
        }

        void tell(int kind, int line, int unit) {
            this.kind = kind;
            this.line = line;
            this.unit = unit;
        }
    }

    /** What the latest good link made: it holds copies, since the units may change or go. */
    private static final class Image {
        final int[] parts;
        final byte[] bytes;
        final long[] nameWords;
        final int[] nameLengths;
        final int[] nameAddresses;
        final int[] startOffsets;
        final int[] startLines;
        int nameCount;
        int startCount;

        Image() {
            parts = new int[PARTS];
            bytes = new byte[MOST_BYTES];
            nameWords = new long[MOST_SYMBOLS];
            nameLengths = new int[MOST_SYMBOLS];
            nameAddresses = new int[MOST_SYMBOLS];
            startOffsets = new int[MOST_STARTS];
            startLines = new int[MOST_STARTS];
            nameCount = 0;
            startCount = 0;
        }

        void begin(int[] plan) {
            System.arraycopy(plan, 0, parts, 0, PARTS);
            Arrays.fill(bytes, 0, parts[SIZE], (byte) 0);
            nameCount = 0;
            startCount = 0;
        }

        void addName(Name name, int address) {
            if (nameCount >= MOST_SYMBOLS) {
                return;
            }
            nameWords[nameCount] = name.word;
            nameLengths[nameCount] = name.length;
            nameAddresses[nameCount] = address;
            nameCount++;
        }

        int rowOfName(long word, int length) {
            for (int row = 0; row < nameCount; row++) {
                if (nameWords[row] == word && nameLengths[row] == length) {
                    return row;
                }
            }
            return NONE;
        }

        void addStart(Start start) {
            if (startCount >= MOST_STARTS) {
                return;
            }
            startOffsets[startCount] = start.text.begin - BASE + start.place;
            startLines[startCount] = (start.text.unit.number << 16) + start.line;
            startCount++;
        }
    }
}
