import java.util.ArrayList;
import java.util.HashMap;
import java.util.List;
import java.util.Map;
import java.util.NoSuchElementException;
import java.util.Random;
import java.util.TreeMap;

/**
 * Runs of calls from fixed seeds, answered by the class and by a model that follows the document's
 * sentences one by one; an exception that the document does not name ends the test.
 */
public final class SymbolLinkerModel {
    private static final long THROWN = Long.MIN_VALUE;
    private static final int RUNS = 4000;
    private static final int BASE = 0x400000;
    private static final long ENTRY = 0x7374617274L;
    private static final String[] NAMES = {"start", "a", "b", "c", "ab", "ba", "longname", "sta", "tart", "e", "f", "g", "h", "i", "j"};

    private record Symbol(String name, int marks, int section, int place, int line) {
        boolean label() {
            return section >= 0;
        }

        boolean weak() {
            return marks >= 2;
        }

        boolean globalLabel() {
            return label() && marks == 1;
        }

        boolean weakLabel() {
            return label() && weak();
        }
    }

    private record Wait(int section, int place, int size, int next, int what, long v, int line) {
    }

    /** A label of a unit, as what a symbol stands for. */
    private record Stand(int unit, int section, int place) {
    }

    private static final class Unit {
        boolean library;
        int[] sizes;
        byte[][] bytes;
        boolean[] kept = new boolean[4];
        List<Symbol> symbols = new ArrayList<>();
        List<Wait> waits = new ArrayList<>();
        Map<Integer, Integer> starts = new HashMap<>();
    }

    private static final class Model {
        List<Unit> units = new ArrayList<>();
        boolean[][] needed = new boolean[0][];
        int[] fault = {0, 0, -1};
        byte[] image = new byte[0];
        int[] parts = new int[7];
        Map<String, Integer> addresses = new HashMap<>();
        Map<Integer, Integer> lines = new HashMap<>();
        boolean[] taken;
        int[][] at;

        Unit last() {
            return units.isEmpty() ? null : units.get(units.size() - 1);
        }

        void clear() {
            units.clear();
            needed = new boolean[0][];
        }

        long unit(boolean library, int... sizes) {
            long all = 0;
            for (Unit u : units) {
                all += u.sizes[0] + u.sizes[1] + u.sizes[2];
            }
            for (int k = 0; k < 4; k++) {
                if (sizes[k] < 0 || sizes[k] > 65536) {
                    return -1;
                }
                all += k < 3 ? sizes[k] : 0;
            }
            if (all > 262144 || units.size() == 32) {
                return -1;
            }
            Unit u = new Unit();
            u.library = library;
            u.sizes = sizes;
            u.bytes = new byte[][] {new byte[sizes[0]], new byte[sizes[1]], new byte[sizes[2]]};
            units.add(u);
            return units.size() - 1;
        }

        boolean put(int section, int place, long v, int n) {
            Unit u = last();
            if (u == null || section < 0 || section > 2 || n < 1 || n > 8) {
                return false;
            }
            if (place < 0 || (long) place + n > u.sizes[section]) {
                return false;
            }
            for (int k = 0; k < n; k++) {
                u.bytes[section][place + k] = (byte) (v >>> 8 * k);
            }
            return true;
        }

        boolean keep(int section) {
            if (last() == null || section < 0 || section > 3) {
                return false;
            }
            last().kept[section] = true;
            return true;
        }

        static String name(long word, int n) {
            StringBuilder text = new StringBuilder();
            for (int k = n - 1; k >= 0; k--) {
                text.append((char) (word >>> 8 * k & 255));
            }
            return text.toString();
        }

        long symbol(long word, int n, int marks, int section, int place, int line) {
            Unit u = last();
            if (u == null || n < 1 || n > 8 || marks < 0 || marks > 3 || section < -1 || section > 3) {
                return -1;
            }
            if (section >= 0 && (place < 0 || place > u.sizes[section]) || line < 0 || line > 65535) {
                return -1;
            }
            for (Symbol s : u.symbols) {
                if (s.name.equals(name(word, n))) {
                    return -1;
                }
            }
            u.symbols.add(new Symbol(name(word, n), marks, section, place, line));
            return u.symbols.size() - 1;
        }

        boolean await(Wait w) {
            Unit u = last();
            if (u == null || w.section < 0 || w.section > 2 || w.size != 4 && w.size != 8) {
                return false;
            }
            int size = u.sizes[w.section];
            if (w.place < 0 || (long) w.place + w.size > size || w.next < -1 || w.next > size) {
                return false;
            }
            if (w.what < -5 || w.what >= u.symbols.size() || w.line < 0 || w.line > 65535) {
                return false;
            }
            u.waits.add(w);
            return true;
        }

        boolean start(int place, int line) {
            Unit u = last();
            if (u == null || place < 0 || place >= u.sizes[0] || line < 0 || line > 65535) {
                return false;
            }
            u.starts.put(place, line);
            return true;
        }

        Stand meaning(String name) {
            for (int weak = 0; weak < 2; weak++) {
                for (int k = 0; k < units.size(); k++) {
                    for (Symbol s : units.get(k).symbols) {
                        boolean fits = weak == 0 ? s.globalLabel() : s.weakLabel();
                        if (taken[k] && fits && s.name.equals(name)) {
                            return new Stand(k, s.section, s.place);
                        }
                    }
                }
            }
            return null;
        }

        Stand stand(int unit, Symbol s) {
            return s.label() && !s.weak() ? new Stand(unit, s.section, s.place) : meaning(s.name);
        }

        boolean isMissed(String name) {
            for (int k = 0; k < units.size(); k++) {
                for (Symbol s : units.get(k).symbols) {
                    if (taken[k] && !s.label() && !s.weak() && s.name.equals(name)) {
                        return true;
                    }
                }
            }
            return false;
        }

        int wantedUnit() {
            for (int k = 0; k < units.size(); k++) {
                for (Symbol s : units.get(k).symbols) {
                    boolean shared = s.globalLabel() || s.weakLabel();
                    if (!taken[k] && shared && isMissed(s.name) && meaning(s.name) == null) {
                        return k;
                    }
                }
            }
            return -1;
        }

        void take() {
            taken = new boolean[units.size()];
            for (int k = 0; k < units.size(); k++) {
                taken[k] = !units.get(k).library;
            }
            for (int k = wantedUnit(); k >= 0; k = wantedUnit()) {
                taken[k] = true;
            }
        }

        int[] nameFault() {
            boolean entry = false;
            for (int k = 0; k < units.size(); k++) {
                for (Symbol s : units.get(k).symbols) {
                    entry |= taken[k] && s.globalLabel() && s.name.equals("start");
                }
            }
            if (!entry) {
                return new int[] {1, 0, -1};
            }
            for (int k = 0; k < units.size(); k++) {
                int least = Integer.MAX_VALUE;
                for (Symbol s : units.get(k).symbols) {
                    if (taken[k] && s.globalLabel() && meaning(s.name).unit < k) {
                        least = Math.min(least, s.line);
                    }
                }
                if (least != Integer.MAX_VALUE) {
                    return new int[] {2, least, k};
                }
            }
            return null;
        }

        void need(int unit, int section) {
            if (needed[unit][section]) {
                return;
            }
            needed[unit][section] = true;
            Unit u = units.get(unit);
            for (Wait w : u.waits) {
                if (w.section == section && w.what <= -2) {
                    need(unit, -2 - w.what);
                }
                Stand stand = w.section == section && w.what >= 0 ? stand(unit, u.symbols.get(w.what)) : null;
                if (stand != null) {
                    need(stand.unit, stand.section);
                }
            }
        }

        void findNeeded() {
            needed = new boolean[units.size()][4];
            Stand entry = meaning("start");
            need(entry.unit, entry.section);
            for (int k = 0; k < units.size(); k++) {
                for (int section = 0; section < 4; section++) {
                    if (taken[k] && units.get(k).kept[section]) {
                        need(k, section);
                    }
                }
            }
        }

        int[] lay() {
            at = new int[units.size()][4];
            int[] begins = new int[4];
            int[] ends = new int[4];
            int now = BASE;
            int size = 0;
            for (int section = 0; section < 4; section++) {
                while (section < 3 && now % 4096 != 0) {
                    now++;
                }
                begins[section] = now;
                for (int k = 0; k < units.size(); k++) {
                    if (needed[k][section]) {
                        while (now % 16 != 0) {
                            now++;
                        }
                        at[k][section] = now;
                        now += units.get(k).sizes[section];
                        size = now - BASE;
                    }
                }
                ends[section] = now;
            }
            Stand e = meaning("start");
            return new int[] {ends[0], begins[1], ends[1], begins[2], ends[3], at[e.unit][e.section] + e.place, size};
        }

        long value(int unit, Wait w) {
            long v = w.v;
            if (w.what <= -2) {
                v += at[unit][-2 - w.what];
            }
            Stand stand = w.what >= 0 ? stand(unit, units.get(unit).symbols.get(w.what)) : null;
            if (stand != null) {
                v += at[stand.unit][stand.section] + stand.place;
            }
            return w.next < 0 ? v : v - at[unit][w.section] - w.next;
        }

        int[] waitFault() {
            for (int k = 0; k < units.size(); k++) {
                Unit u = units.get(k);
                TreeMap<Integer, List<Wait>> byLines = new TreeMap<>();
                for (Wait w : u.waits) {
                    byLines.computeIfAbsent(w.line, line -> new ArrayList<>()).add(w);
                }
                for (List<Wait> ofLine : byLines.values()) {
                    for (Wait w : ofLine) {
                        Symbol s = w.what >= 0 ? u.symbols.get(w.what) : null;
                        boolean nothing = s != null && !s.label() && !s.weak() && stand(k, s) == null;
                        long v = value(k, w);
                        boolean large = w.size == 4 && (v < Integer.MIN_VALUE || v > Integer.MAX_VALUE);
                        if (needed[k][w.section] && (nothing || large)) {
                            return new int[] {nothing ? 3 : 4, w.line, k};
                        }
                    }
                }
            }
            return null;
        }

        long link() {
            take();
            fault = nameFault();
            if (fault != null) {
                return THROWN;
            }
            findNeeded();
            int[] laid = lay();
            fault = waitFault();
            if (fault == null && laid[6] > 262144) {
                fault = new int[] {5, 0, -1};
            }
            if (fault != null) {
                return THROWN;
            }
            fault = new int[] {0, 0, -1};
            parts = laid;
            fillImage();
            return parts[6];
        }

        void fillImage() {
            image = new byte[parts[6]];
            addresses.clear();
            lines.clear();
            for (int k = 0; k < units.size(); k++) {
                Unit u = units.get(k);
                for (int section = 0; section < 3; section++) {
                    for (int i = 0; needed[k][section] && i < u.sizes[section]; i++) {
                        image[at[k][section] - BASE + i] = u.bytes[section][i];
                    }
                }
                for (Wait w : u.waits) {
                    for (int i = 0; needed[k][w.section] && i < w.size; i++) {
                        image[at[k][w.section] - BASE + w.place + i] = (byte) (value(k, w) >>> 8 * i);
                    }
                }
                for (Symbol s : u.symbols) {
                    Stand stand = meaning(s.name);
                    if (stand != null && needed[stand.unit][stand.section]) {
                        addresses.put(s.name, at[stand.unit][stand.section] + stand.place);
                    }
                }
                for (Map.Entry<Integer, Integer> start : u.starts.entrySet()) {
                    if (needed[k][0]) {
                        lines.put(at[k][0] - BASE + start.getKey(), 65536 * k + start.getValue());
                    }
                }
            }
        }

        long needed(int u, int section) {
            if (u < 0 || u >= units.size() || section < 0 || section > 3) {
                return -1;
            }
            return u < needed.length && needed[u][section] ? 1 : 0;
        }

        long address(long word, int n) {
            Integer found = n < 1 || n > 8 ? null : addresses.get(name(word, n));
            return found == null ? THROWN : found;
        }
    }

    private static long linkOf(SymbolLinker x) {
        try {
            return x.link();
        } catch (IllegalStateException e) {
            return THROWN;
        }
    }

    private static long addressOf(SymbolLinker x, long word, int n) {
        try {
            return x.address(word, n);
        } catch (NoSuchElementException e) {
            return THROWN;
        }
    }

    private final Random random;
    private final int run;
    private final SymbolLinker x = new SymbolLinker();
    private final Model model = new Model();
    private int wrong = 0;
    private static final int[] kindsSeen = new int[6];

    private SymbolLinkerModel(int run) {
        this.run = run;
        random = new Random(run);
    }

    private void due(String call, long got, long want) {
        if (got != want) {
            wrong++;
            System.out.println("run " + run + ": " + call + " answered " + got + ", due is " + want);
        }
    }

    private void due(String call, boolean got, boolean want) {
        due(call, got ? 1 : 0, want ? 1 : 0);
    }

    /** Mostly from low to high, now and then just outside or far off. */
    private int number(int low, int high) {
        int kind = random.nextInt(60);
        if (kind == 0) {
            return random.nextInt();
        }
        if (kind == 1) {
            return random.nextBoolean() ? Integer.MAX_VALUE : Integer.MIN_VALUE;
        }
        if (kind == 2) {
            return random.nextBoolean() ? low - 1 : high + 1;
        }
        return high <= low ? low : low + random.nextInt(high - low + 1);
    }

    private int size() {
        if (random.nextInt(run % 20 == 0 ? 3 : 300) == 0) {
            return number(0, 65536);
        }
        return random.nextInt(8) == 0 ? 0 : number(1, 70);
    }

    private int sizeOf(int section) {
        Unit u = model.last();
        return u == null || section < 0 || section > 3 ? 9 : u.sizes[section];
    }

    private long word(String name) {
        long word = random.nextInt(4) == 0 ? random.nextLong() : 0;
        for (int k = 0; k < name.length(); k++) {
            word = word << 8 | name.charAt(k);
        }
        return word;
    }

    private void callUnit() {
        boolean library = model.units.isEmpty() ? random.nextInt(9) == 0 : random.nextInt(2) == 0;
        int text = size();
        int rodata = size();
        int data = size();
        int bss = run % 20 == 0 ? number(0, 65536) : size();
        due("unit", x.unit(library, text, rodata, data, bss), model.unit(library, text, rodata, data, bss));
        // Most links are to get behind the fault of kind 1.
        if (model.units.size() == 1 && random.nextInt(8) != 0) {
            due("symbol", x.symbol(ENTRY, 5, 1, 0, 0, 1), model.symbol(ENTRY, 5, 1, 0, 0, 1));
        }
        // Else hardly an image were too large.
        if (run % 20 == 0) {
            due("keep", x.keep(3), model.keep(3));
        }
    }

    private void callSymbol() {
        String name = NAMES[random.nextInt(NAMES.length)];
        long word = word(name);
        int n = random.nextInt(40) == 0 ? number(1, 8) : name.length();
        int marks = name.equals("start") && random.nextInt(3) != 0 ? 1 : number(0, 3);
        int section = number(-1, 3);
        if (name.equals("start") && random.nextInt(8) != 0) {
            section = -1;
        }
        if (marks == 1 && section >= 0 && random.nextInt(3) == 0) {
            marks = 2;
        }
        int place = number(0, sizeOf(section));
        int line = number(0, random.nextBoolean() ? 9 : 65535);
        due("symbol", x.symbol(word, n, marks, section, place, line),
                model.symbol(word, n, marks, section, place, line));
    }

    private void callAwait() {
        int section = number(0, 2);
        int size = random.nextBoolean() ? 4 : random.nextInt(30) == 0 ? number(0, 9) : 8;
        int place = number(0, Math.max(0, sizeOf(section) - size));
        int next = random.nextBoolean() ? -1 : number(0, sizeOf(section));
        int known = model.last() == null ? 0 : model.last().symbols.size();
        int what = random.nextBoolean() ? number(0, known - 1) : number(-5, known);
        long v = random.nextInt(25) == 0 ? random.nextLong() : random.nextInt(200) - 100;
        int line = number(0, 9);
        due("await", x.await(section, place, size, next, what, v, line),
                model.await(new Wait(section, place, size, next, what, v, line)));
    }

    private void callLink() {
        due("link", linkOf(x), model.link());
        kindsSeen[model.fault[0]]++;
        for (int what = -1; what <= 3; what++) {
            due("fault(" + what + ")", x.fault(what), what < 0 || what > 2 ? -1 : model.fault[what]);
        }
    }

    private void compareAll() {
        int some = model.image.length > 20000 ? 97 : 1;
        for (int i = -1; i <= model.image.length + 1; i += some) {
            boolean in = i >= 0 && i < model.image.length;
            due("octet(" + i + ")", x.octet(i), in ? model.image[i] & 255 : -1);
            if (i < 600) {
                due("line(" + i + ")", x.line(i), model.lines.getOrDefault(i, -1));
            }
        }
        for (String name : NAMES) {
            long word = word(name);
            due("address of " + name, addressOf(x, word, name.length()), model.address(word, name.length()));
        }
        for (int u = -1; u <= model.units.size(); u++) {
            for (int section = -1; section <= 4; section++) {
                due("needed(" + u + ", " + section + ")", x.needed(u, section), model.needed(u, section));
            }
        }
        for (int what = -1; what <= 7; what++) {
            due("part(" + what + ")", x.part(what), what < 0 || what > 6 ? -1 : model.parts[what]);
        }
    }

    private void callQuestion() {
        int i = random.nextInt();
        due("octet", x.octet(i), i >= 0 && i < model.image.length ? model.image[i] & 255 : -1);
        due("line", x.line(i), model.lines.getOrDefault(i, -1));
        int n = number(0, 9);
        long word = random.nextLong();
        due("address", addressOf(x, word, n), model.address(word, n));
        int u = number(0, 31);
        int section = number(0, 3);
        due("needed", x.needed(u, section), model.needed(u, section));
    }

    private void callAny() {
        int kind = random.nextInt(100);
        if (kind < 12) {
            callUnit();
        } else if (kind < 40) {
            callSymbol();
        } else if (kind < 62) {
            callAwait();
        } else if (kind < 72) {
            int section = number(0, 2);
            int place = number(0, sizeOf(section));
            long v = random.nextLong();
            int n = number(1, 8);
            due("put", x.put(section, place, v, n), model.put(section, place, v, n));
        } else if (kind < 80) {
            int place = number(0, sizeOf(0) - 1);
            int line = number(0, 65535);
            due("start", x.start(place, line), model.start(place, line));
        } else if (kind < 86) {
            int section = number(0, 3);
            due("keep", x.keep(section), model.keep(section));
        } else if (kind < 94) {
            callLink();
            compareAll();
        } else if (kind < 95) {
            x.clear();
            model.clear();
            compareAll();
        } else {
            callQuestion();
        }
    }

    public static void main(String[] args) {
        int wrongInAll = 0;
        for (int run = 0; run < RUNS && wrongInAll < 50; run++) {
            SymbolLinkerModel test = new SymbolLinkerModel(run);
            int calls = 20 + test.random.nextInt(180);
            for (int k = 0; k < calls && test.wrong < 10; k++) {
                test.callAny();
            }
            wrongInAll += test.wrong;
        }
        // A kind of fault that never came was not compared.
        for (int kind = 0; kind < kindsSeen.length; kind++) {
            if (kindsSeen[kind] == 0 && wrongInAll == 0) {
                wrongInAll++;
                System.out.println("no link had a fault of kind " + kind);
            }
        }
        System.out.println("links by kinds of fault: " + java.util.Arrays.toString(kindsSeen));
        System.out.println(wrongInAll == 0 ? "the model agrees" : wrongInAll + " answers differ from the model");
        if (wrongInAll != 0) {
            System.exit(1);
        }
    }
}
