import java.util.ArrayList;
import java.util.Arrays;
import java.util.NoSuchElementException;

/** Links units of sections, symbols and waiting values to an image. */
public final class SymbolLinker {
    public static final int NONE = -1;

    private static final int TEXT = 0;
    private static final int RODATA = 1;
    private static final int DATA = 2;
    private static final int BSS = 3;
    private static final int KINDS = 4;

    private static final int MOST_UNITS = 32;
    private static final int MOST_SYMBOLS = 2048;
    private static final int MOST_WAITS = 4096;
    private static final int MOST_STARTS = 8192;
    private static final int MOST_SECTION_BYTES = 65536;
    private static final int MOST_BYTES = 262144;
    private static final int MOST_LINE = 65535;
    private static final int MOST_NAME_BYTES = 8;

    private static final int GLOBAL = 1;
    private static final int WEAK = 2;

    private static final int BASE = 0x400000;
    private static final int PAGE = 4096;
    private static final int STEP = 16;
    private static final long ENTRY_WORD = 0x7374617274L;
    private static final int ENTRY_LENGTH = 5;

    private static final int NO_FAULT = 0;
    private static final int NO_ENTRY = 1;
    private static final int TWO_GLOBALS = 2;
    private static final int NO_MEANING = 3;
    private static final int NO_FIT = 4;
    private static final int TOO_LARGE = 5;

    private static final int TEXT_END = 0;
    private static final int RODATA_BEGIN = 1;
    private static final int RODATA_END = 2;
    private static final int DATA_BEGIN = 3;
    private static final int BSS_END = 4;
    private static final int ENTRY = 5;
    private static final int SIZE = 6;
    private static final int PARTS = 7;

    private static final int FIRST_BYTES = 256;
    private static final int FIRST_ROWS = 16;

    private final ArrayList<Unit> units;
    private final ArrayList<Name> names;
    private final ArrayList<Wait> waits;
    private final ArrayList<Start> starts;
    private final Fault latestFault;
    private final Image image;
    // The parts of the link under way: the image's own must stay if it fails.
    private final int[] plan;
    // The bytes of all sections but bss stand in one row, so that clear() and unit() make no new ones.
    private byte[] bytes;
    private int bytesUsed;
    private int symbolCount;
    private int lastEnd;

    public SymbolLinker() {
        units = new ArrayList<Unit>();
        names = new ArrayList<Name>();
        waits = new ArrayList<Wait>();
        starts = new ArrayList<Start>();
        latestFault = new Fault();
        image = new Image();
        plan = new int[PARTS];
        bytes = new byte[FIRST_BYTES];
        bytesUsed = 0;
        symbolCount = 0;
        lastEnd = BASE;
    }

    public void clear() {
        units.clear();
        names.clear();
        waits.clear();
        starts.clear();
        bytesUsed = 0;
        symbolCount = 0;
    }

    public int unit(boolean library, int text, int rodata, int data, int bss) {
        if (!isSectionSize(text) || !isSectionSize(rodata) || !isSectionSize(data) || !isSectionSize(bss)) {
            return NONE;
        }
        int more = text + rodata + data;
        if (more > MOST_BYTES - bytesUsed || units.size() >= MOST_UNITS) {
            return NONE;
        }
        Unit unit = new Unit(units.size(), library);
        addSection(unit, TEXT, text);
        addSection(unit, RODATA, rodata);
        addSection(unit, DATA, data);
        unit.sections[BSS] = new Section(unit, bss, 0);
        units.add(unit);
        return unit.number;
    }

    public boolean put(int section, int place, long v, int n) {
        Section home = latestSection(section);
        if (home == null || section == BSS || n < 1 || n > 8 || !home.holds(place, n)) {
            return false;
        }
        storeLowestFirst(bytes, home.firstByte + place, v, n);
        return true;
    }

    public boolean keep(int section) {
        Section home = latestSection(section);
        if (home == null) {
            return false;
        }
        home.kept = true;
        return true;
    }

    public int symbol(long word, int n, int marks, int section, int place, int line) {
        Unit unit = latestUnit();
        if (unit == null || symbolCount >= MOST_SYMBOLS || !isNameLength(n)) {
            return NONE;
        }
        if (marks < 0 || marks > (GLOBAL | WEAK) || !isLine(line)) {
            return NONE;
        }
        Section home = latestSection(section);
        if (section != NONE && (home == null || !home.hasPlace(place))) {
            return NONE;
        }
        Name name = findName(word, n);
        if (name != null && unit.hasSymbol(name)) {
            return NONE;
        }
        if (name == null) {
            name = new Name(nameWord(word, n), n);
            names.add(name);
        }
        unit.symbols.add(new Symbol(name, marks, home, place, line));
        symbolCount++;
        return unit.symbols.size() - 1;
    }

    public boolean await(int section, int place, int size, int next, int what, long v, int line) {
        Unit unit = latestUnit();
        Section home = latestSection(section);
        if (unit == null || home == null || section == BSS || waits.size() >= MOST_WAITS) {
            return false;
        }
        if ((size != 4 && size != 8) || !home.holds(place, size) || !isLine(line)) {
            return false;
        }
        if (next != NONE && !home.hasPlace(next)) {
            return false;
        }
        Symbol symbol = unit.symbolNumbered(what);
        Section beginning = what < NONE ? unit.sectionOfKind(-2 - what) : null;
        if (what != NONE && symbol == null && beginning == null) {
            return false;
        }
        Wait wait = new Wait(home, place, size, v, line);
        wait.next = next;
        wait.symbol = symbol;
        wait.beginning = beginning;
        waits.add(wait);
        return true;
    }

    public boolean start(int place, int line) {
        Section text = latestSection(TEXT);
        if (text == null || !text.holds(place, 1) || !isLine(line) || starts.size() >= MOST_STARTS) {
            return false;
        }
        starts.add(new Start(text, place, line));
        return true;
    }

    public int link() throws IllegalStateException {
        latestFault.tell(NO_FAULT, 0, NONE);
        takeUnits();
        bindNames();
        Symbol entry = entryLabel();
        if (entry == null) {
            latestFault.tell(NO_ENTRY, 0, NONE);
        } else {
            findTwoGlobals();
        }
        if (entry != null && latestFault.kind == NO_FAULT) {
            findNeeded(entry.section);
            placeParts(entry);
            findWaitFault();
        }
        if (latestFault.kind == NO_FAULT && plan[SIZE] > MOST_BYTES) {
            latestFault.tell(TOO_LARGE, 0, NONE);
        }
        if (latestFault.kind != NO_FAULT) {
            throw new IllegalStateException("the units have a fault");
        }
        makeImage();
        return plan[SIZE];
    }

    public int fault(int what) {
        switch (what) {
            case 0:
                return latestFault.kind;
            case 1:
                return latestFault.line;
            case 2:
                return latestFault.unit;
            default:
                return NONE;
        }
    }

    public int needed(int u, int section) {
        if (u < 0 || u >= units.size()) {
            return NONE;
        }
        Section asked = units.get(u).sectionOfKind(section);
        if (asked == null) {
            return NONE;
        }
        return asked.needed ? 1 : 0;
    }

    public int octet(int i) {
        if (i < 0 || i >= image.parts[SIZE]) {
            return NONE;
        }
        return image.bytes[i] & 0xff;
    }

    public int address(long word, int n) throws NoSuchElementException {
        int row = isNameLength(n) ? image.rowOfName(nameWord(word, n), n) : NONE;
        if (row == NONE) {
            throw new NoSuchElementException("the image has no such name");
        }
        return image.nameAddresses[row];
    }

    public int line(int i) {
        for (int row = image.startCount - 1; row >= 0; row--) {
            if (image.startOffsets[row] == i) {
                return image.startLines[row];
            }
        }
        return NONE;
    }

    public int part(int what) {
        if (what < 0 || what >= PARTS) {
            return NONE;
        }
        return image.parts[what];
    }

    private static boolean isSectionSize(int size) {
        return size >= 0 && size <= MOST_SECTION_BYTES;
    }

    private static boolean isLine(int line) {
        return line >= 0 && line <= MOST_LINE;
    }

    private static boolean isNameLength(int n) {
        return n >= 1 && n <= MOST_NAME_BYTES;
    }

    private static long nameWord(long word, int n) {
        // A shift by 64 would be one by 0 in Java.
        return n >= MOST_NAME_BYTES ? word : word & ((1L << (8 * n)) - 1);
    }

    private static int roundUp(int number, int step) {
        return (number + step - 1) & -step;
    }

    private static int grownLength(int length, int wanted, int most) {
        return Math.min(most, Math.max(wanted, 2 * length));
    }

    private static void storeLowestFirst(byte[] row, int from, long v, int n) {
        for (int k = 0; k < n; k++) {
            row[from + k] = (byte) (v >> (8 * k));
        }
    }

    private Unit latestUnit() {
        return units.isEmpty() ? null : units.get(units.size() - 1);
    }

    private Section latestSection(int kind) {
        Unit unit = latestUnit();
        return unit == null ? null : unit.sectionOfKind(kind);
    }

    private void addSection(Unit unit, int kind, int size) {
        int end = bytesUsed + size;
        if (end > bytes.length) {
            bytes = Arrays.copyOf(bytes, grownLength(bytes.length, end, MOST_BYTES));
        }
        Arrays.fill(bytes, bytesUsed, end, (byte) 0);
        unit.sections[kind] = new Section(unit, size, bytesUsed);
        bytesUsed = end;
    }

    private Name findName(long word, int n) {
        long wanted = nameWord(word, n);
        for (int k = 0; k < names.size(); k++) {
            Name name = names.get(k);
            if (name.word == wanted && name.length == n) {
                return name;
            }
        }
        return null;
    }

    private Symbol entryLabel() {
        Name name = findName(ENTRY_WORD, ENTRY_LENGTH);
        return name == null ? null : name.firstGlobal;
    }

    private void takeUnits() {
        for (int k = 0; k < names.size(); k++) {
            names.get(k).forget();
        }
        for (int k = 0; k < units.size(); k++) {
            Unit unit = units.get(k);
            unit.taken = false;
            if (!unit.library) {
                unit.take();
            }
        }
        Unit wanted = firstWantedUnit();
        for (int round = 0; round < MOST_UNITS && wanted != null; round++) {
            wanted.take();
            wanted = firstWantedUnit();
        }
    }

    private Unit firstWantedUnit() {
        for (int k = 0; k < units.size(); k++) {
            Unit unit = units.get(k);
            if (!unit.taken && unit.isWanted()) {
                return unit;
            }
        }
        return null;
    }

    private void bindNames() {
        for (int k = 0; k < units.size(); k++) {
            Unit unit = units.get(k);
            if (unit.taken) {
                unit.bindLabels();
            }
        }
    }

    private void findTwoGlobals() {
        for (int k = 0; k < units.size(); k++) {
            Unit unit = units.get(k);
            int line = unit.taken ? unit.leastLineOfSecondGlobals() : NONE;
            if (line != NONE) {
                latestFault.tell(TWO_GLOBALS, line, k);
                return;
            }
        }
    }

    private void findNeeded(Section entrySection) {
        for (int k = 0; k < units.size(); k++) {
            units.get(k).needKeptAlone();
        }
        if (entrySection != null) {
            entrySection.needed = true;
        }
        boolean more = true;
        for (int round = 0; round <= MOST_UNITS * KINDS && more; round++) {
            more = needWhatNeededOnesAwait();
        }
    }

    private boolean needWhatNeededOnesAwait() {
        boolean found = false;
        for (int k = 0; k < waits.size(); k++) {
            Wait wait = waits.get(k);
            Section target = wait.home.needed ? wait.target() : null;
            if (target != null && !target.needed) {
                target.needed = true;
                found = true;
            }
        }
        return found;
    }

    private void placeParts(Symbol entry) {
        lastEnd = BASE;
        plan[TEXT_END] = placeSections(TEXT, BASE);
        plan[RODATA_BEGIN] = roundUp(plan[TEXT_END], PAGE);
        plan[RODATA_END] = placeSections(RODATA, plan[RODATA_BEGIN]);
        plan[DATA_BEGIN] = roundUp(plan[RODATA_END], PAGE);
        int dataEnd = placeSections(DATA, plan[DATA_BEGIN]);
        plan[BSS_END] = placeSections(BSS, dataEnd);
        plan[ENTRY] = entry.placeInImage();
        plan[SIZE] = lastEnd - BASE;
    }

    private int placeSections(int kind, int begin) {
        int end = begin;
        for (int k = 0; k < units.size(); k++) {
            Section section = units.get(k).sectionOfKind(kind);
            if (section != null && section.needed) {
                section.begin = roundUp(end, STEP);
                end = section.begin + section.size;
                lastEnd = end;
            }
        }
        return end;
    }

    private void findWaitFault() {
        Wait first = null;
        for (int k = 0; k < waits.size(); k++) {
            Wait wait = waits.get(k);
            if (wait.home.needed && wait.faultKind() != NO_FAULT && (first == null || wait.isBefore(first))) {
                first = wait;
            }
        }
        if (first != null) {
            latestFault.tell(first.faultKind(), first.line, first.home.unit.number);
        }
    }

    private void makeImage() {
        image.begin(plan);
        for (int k = 0; k < units.size(); k++) {
            copySections(units.get(k));
        }
        for (int k = 0; k < waits.size(); k++) {
            Wait wait = waits.get(k);
            if (wait.home.needed) {
                storeLowestFirst(image.bytes, wait.home.begin - BASE + wait.place, wait.value(), wait.size);
            }
        }
        for (int k = 0; k < names.size(); k++) {
            Name name = names.get(k);
            Symbol label = name.meaning();
            if (label != null && label.section != null && label.section.needed) {
                image.addName(name, label.placeInImage());
            }
        }
        for (int k = 0; k < starts.size(); k++) {
            Start start = starts.get(k);
            if (start.text.needed) {
                image.addStart(start);
            }
        }
    }

    private void copySections(Unit unit) {
        for (int kind = TEXT; kind < BSS; kind++) {
            Section section = unit.sectionOfKind(kind);
            if (section != null && section.needed) {
                System.arraycopy(bytes, section.firstByte, image.bytes, section.begin - BASE, section.size);
            }
        }
    }

    private static final class Unit {
        final int number;
        final boolean library;
        final Section[] sections;
        final ArrayList<Symbol> symbols;
        boolean taken;

        Unit(int number, boolean library) {
            this.number = number;
            this.library = library;
            sections = new Section[KINDS];
            symbols = new ArrayList<Symbol>();
            taken = false;
        }

        Section sectionOfKind(int kind) {
            return kind < 0 || kind >= sections.length ? null : sections[kind];
        }

        Symbol symbolNumbered(int k) {
            return k < 0 || k >= symbols.size() ? null : symbols.get(k);
        }

        boolean hasSymbol(Name name) {
            for (int k = 0; k < symbols.size(); k++) {
                if (symbols.get(k).name == name) {
                    return true;
                }
            }
            return false;
        }

        void take() {
            taken = true;
            for (int k = 0; k < symbols.size(); k++) {
                Symbol symbol = symbols.get(k);
                if (symbol.isSharedLabel()) {
                    symbol.name.had = true;
                } else if (symbol.isMissed()) {
                    symbol.name.missed = true;
                }
            }
        }

        boolean isWanted() {
            for (int k = 0; k < symbols.size(); k++) {
                Symbol symbol = symbols.get(k);
                if (symbol.isSharedLabel() && symbol.name.missed && !symbol.name.had) {
                    return true;
                }
            }
            return false;
        }

        void bindLabels() {
            for (int k = 0; k < symbols.size(); k++) {
                Symbol symbol = symbols.get(k);
                if (symbol.isSharedLabel()) {
                    symbol.name.bind(symbol);
                }
            }
        }

        int leastLineOfSecondGlobals() {
            int least = NONE;
            for (int k = 0; k < symbols.size(); k++) {
                Symbol symbol = symbols.get(k);
                boolean second = symbol.isGlobalLabel() && symbol.name.firstGlobal != symbol;
                if (second && (least == NONE || symbol.line < least)) {
                    least = symbol.line;
                }
            }
            return least;
        }

        void needKeptAlone() {
            for (int kind = 0; kind < sections.length; kind++) {
                Section section = sections[kind];
                if (section != null) {
                    section.needed = taken && section.kept;
                }
            }
        }
    }

    private static final class Section {
        final Unit unit;
        final int size;
        final int firstByte;
        boolean kept;
        // Of the latest link without a fault of kind 1 or 2: no other touches it.
        boolean needed;
        int begin;

        Section(Unit unit, int size, int firstByte) {
            this.unit = unit;
            this.size = size;
            this.firstByte = firstByte;
            kept = false;
            needed = false;
            begin = 0;
        }

        boolean holds(int place, int n) {
            return place >= 0 && place <= size - n;
        }

        boolean hasPlace(int place) {
            return holds(place, 0);
        }
    }

    /** One for all symbols of a name, so that a link finds its meaning once. */
    private static final class Name {
        final long word;
        final int length;
        boolean missed;
        boolean had;
        Symbol firstGlobal;
        Symbol firstWeak;

        Name(long word, int length) {
            this.word = word;
            this.length = length;
            missed = false;
            had = false;
            firstGlobal = null;
            firstWeak = null;
        }

        void forget() {
            missed = false;
            had = false;
            firstGlobal = null;
            firstWeak = null;
        }

        void bind(Symbol label) {
            if (label.weak && firstWeak == null) {
                firstWeak = label;
            } else if (!label.weak && firstGlobal == null) {
                firstGlobal = label;
            }
        }

        Symbol meaning() {
            return firstGlobal != null ? firstGlobal : firstWeak;
        }
    }

    private static final class Symbol {
        final Name name;
        final boolean global;
        final boolean weak;
        // null: the symbol is missing
        final Section section;
        final int place;
        final int line;

        Symbol(Name name, int marks, Section section, int place, int line) {
            this.name = name;
            weak = (marks & WEAK) != 0;
            global = (marks & GLOBAL) != 0 && !weak;
            this.section = section;
            this.place = place;
            this.line = line;
        }

        boolean isGlobalLabel() {
            return section != null && global;
        }

        boolean isSharedLabel() {
            return section != null && (global || weak);
        }

        boolean isMissed() {
            return section == null && !weak;
        }

        Symbol standsFor() {
            return section != null && !weak ? this : name.meaning();
        }

        int placeInImage() {
            return section == null ? 0 : section.begin + place;
        }
    }

    private static final class Wait {
        final Section home;
        final int place;
        final int size;
        final long number;
        final int line;
        int next;
        // At most one of the two is there.
        Symbol symbol;
        Section beginning;

        Wait(Section home, int place, int size, long number, int line) {
            this.home = home;
            this.place = place;
            this.size = size;
            this.number = number;
            this.line = line;
            next = NONE;
            symbol = null;
            beginning = null;
        }

        Section target() {
            if (symbol == null) {
                return beginning;
            }
            Symbol label = symbol.standsFor();
            return label == null ? null : label.section;
        }

        long value() {
            long sum = number;
            Symbol label = symbol == null ? null : symbol.standsFor();
            if (label != null) {
                sum += label.placeInImage();
            } else if (beginning != null) {
                sum += beginning.begin;
            }
            return next == NONE ? sum : sum - (home.begin + next);
        }

        int faultKind() {
            if (symbol != null && symbol.isMissed() && symbol.standsFor() == null) {
                return NO_MEANING;
            }
            long value = value();
            return size == 4 && value != (int) value ? NO_FIT : NO_FAULT;
        }

        boolean isBefore(Wait other) {
            if (home.unit.number != other.home.unit.number) {
                return home.unit.number < other.home.unit.number;
            }
            return line < other.line;
        }
    }

    private static final class Start {
        final Section text;
        final int place;
        final int line;

        Start(Section text, int place, int line) {
            this.text = text;
            this.place = place;
            this.line = line;
        }
    }

    private static final class Fault {
        int kind;
        int line;
        int unit;

        Fault() {
            kind = NO_FAULT;
            line = 0;
            unit = NONE;
        }

        void tell(int kind, int line, int unit) {
            this.kind = kind;
            this.line = line;
            this.unit = unit;
        }
    }

    /** What the latest good link made: it holds copies, since the units may change or go. */
    private static final class Image {
        final int[] parts;
        byte[] bytes;
        int nameCount;
        long[] nameWords;
        int[] nameLengths;
        int[] nameAddresses;
        int startCount;
        int[] startOffsets;
        int[] startLines;

        Image() {
            parts = new int[PARTS];
            bytes = new byte[FIRST_BYTES];
            nameCount = 0;
            nameWords = new long[FIRST_ROWS];
            nameLengths = new int[FIRST_ROWS];
            nameAddresses = new int[FIRST_ROWS];
            startCount = 0;
            startOffsets = new int[FIRST_ROWS];
            startLines = new int[FIRST_ROWS];
        }

        void begin(int[] plan) {
            System.arraycopy(plan, 0, parts, 0, PARTS);
            int size = parts[SIZE];
            if (size > bytes.length) {
                bytes = new byte[grownLength(bytes.length, size, MOST_BYTES)];
            }
            Arrays.fill(bytes, 0, size, (byte) 0);
            nameCount = 0;
            startCount = 0;
        }

        void addName(Name name, int address) {
            if (nameCount >= nameWords.length) {
                int length = grownLength(nameWords.length, nameCount + 1, MOST_SYMBOLS);
                nameWords = Arrays.copyOf(nameWords, length);
                nameLengths = Arrays.copyOf(nameLengths, length);
                nameAddresses = Arrays.copyOf(nameAddresses, length);
            }
            nameWords[nameCount] = name.word;
            nameLengths[nameCount] = name.length;
            nameAddresses[nameCount] = address;
            nameCount++;
        }

        int rowOfName(long word, int length) {
            for (int row = 0; row < nameCount; row++) {
                if (nameWords[row] == word && nameLengths[row] == length) {
                    return row;
                }
            }
            return NONE;
        }

        void addStart(Start start) {
            if (startCount >= startOffsets.length) {
                int length = grownLength(startOffsets.length, startCount + 1, MOST_STARTS);
                startOffsets = Arrays.copyOf(startOffsets, length);
                startLines = Arrays.copyOf(startLines, length);
            }
            startOffsets[startCount] = start.text.begin - BASE + start.place;
            startLines[startCount] = (start.text.unit.number << 16) + start.line;
            startCount++;
        }
    }
}
