import java.util.ArrayList;
import java.util.Arrays;
import java.util.Comparator;
import java.util.List;
import java.util.Map;
import java.util.TreeMap;

/**
 * The document taken word for word, and held otherwise than in UnitLog: every unit on the disk is kept, in
 * segments and areas, and recovering reads nothing but the disk.
 */
final class Model {
    private static final int UNITS = 16;

    private static final class Entry {
        int serial;
        int block;
        int units;
        boolean store;
        int[] bytes;
        List<Integer> form;
        int segment;
        int unit;
    }

    private static final class Mark {
        int number;
        int serial;
        int open;
        int fill;
        final Map<Integer, Entry> stores = new TreeMap<>();
    }

    private static final class WentDown extends RuntimeException {
        private static final long serialVersionUID = 1;
    }

    private final int segments;
    private final Entry[][] disk;
    private final int[][] part;
    private final Mark[][] areas = new Mark[2][20];
    private final String[] states;
    private final Map<Integer, Entry> latest = new TreeMap<>();
    private final List<Entry> inOpen = new ArrayList<>();
    private int open;
    private int fill;
    private int saved;
    private int serial;
    private int number;
    private int written;
    private int armed = -1;
    private boolean down;

    Model(int wanted) {
        segments = wanted < 4 ? 4 : wanted > 8 ? 8 : wanted;
        disk = new Entry[segments][UNITS];
        part = new int[segments][UNITS];
        states = new String[segments];
        Arrays.fill(states, "free");
        states[0] = "open";
        Arrays.fill(areas[0], new Mark());
    }

    static List<Integer> storedForm(int[] bytes) {
        List<Integer> form = new ArrayList<>();
        List<Integer> literals = new ArrayList<>();
        int i = 0;
        while (i < 16) {
            int[] match = match(bytes, i);
            if (match == null) {
                literals.add(bytes[i]);
                i++;
                if (literals.size() == 15) {
                    endPiece(form, literals, 0);
                }
            } else {
                endPiece(form, literals, match[1] - 2);
                form.add(i - match[0]);
                i += match[1];
            }
        }
        if (!literals.isEmpty()) {
            endPiece(form, literals, 0);
        }
        if (form.size() < 16) {
            return form;
        }
        List<Integer> plain = new ArrayList<>();
        for (int b : bytes) {
            plain.add(b);
        }
        return plain;
    }

    private static void endPiece(List<Integer> form, List<Integer> literals, int m) {
        form.add(16 * literals.size() + m);
        form.addAll(literals);
        literals.clear();
    }

    private static int[] match(int[] bytes, int i) {
        for (int n = 16 - i; n >= 3; n--) {
            int[] wanted = Arrays.copyOfRange(bytes, i, i + n);
            for (int j = i - 1; j >= 0; j--) {
                if (Arrays.equals(wanted, Arrays.copyOfRange(bytes, j, j + n))) {
                    return new int[] {j, n};
                }
            }
        }
        return null;
    }

    static int[] bytesOf(long high, long low) {
        int[] bytes = new int[16];
        for (int i = 0; i < 16; i++) {
            bytes[i] = (int) (((i < 8 ? high : low) >> (8 * (7 - i % 8))) & 0xff);
        }
        return bytes;
    }

    private void writeUnit() {
        if (armed == 0) {
            down = true;
            throw new WentDown();
        }
        if (armed > 0) {
            armed--;
        }
        written++;
    }

    private void save() {
        for (int unit = saved; unit < fill; unit++) {
            writeUnit();
            for (Entry e : inOpen) {
                if (unit >= e.unit && unit < e.unit + e.units) {
                    disk[open][unit] = e;
                    part[open][unit] = unit - e.unit;
                }
            }
            saved++;
        }
    }

    private void mark() {
        save();
        Mark m = new Mark();
        m.number = number + 1;
        m.serial = serial;
        m.open = open;
        m.fill = fill;
        for (Map.Entry<Integer, Entry> e : latest.entrySet()) {
            if (e.getValue().store) {
                m.stores.put(e.getKey(), e.getValue());
            }
        }
        for (int i = 0; i < 20; i++) {
            writeUnit();
            areas[m.number % 2][i] = m;
        }
        number = m.number;
    }

    private int firstOf(String state) {
        return Arrays.asList(states).indexOf(state);
    }

    private int freeOnes() {
        int n = 0;
        for (String s : states) {
            n += s.equals("free") ? 1 : 0;
        }
        return n;
    }

    private void append(Entry e) {
        if (e.units > UNITS - fill) {
            save();
            states[open] = "closed";
            open = firstOf("free");
            states[open] = "open";
            fill = 0;
            saved = 0;
            inOpen.clear();
        }
        e.serial = ++serial;
        e.segment = open;
        e.unit = fill;
        fill += e.units;
        inOpen.add(e);
        latest.put(e.block, e);
    }

    private static Entry storeOf(int block, int[] bytes) {
        Entry e = new Entry();
        e.block = block;
        e.store = true;
        e.bytes = bytes;
        e.form = storedForm(bytes);
        e.units = 2 + (e.form.size() + 3) / 4;
        return e;
    }

    private boolean noRoom(int units) {
        return units > UNITS - fill && freeOnes() <= 1;
    }

    private Entry present(int block) {
        Entry e = latest.get(block);
        return e != null && e.store ? e : null;
    }

    private static boolean noBlock(int block) {
        return block < 0 || block > 15;
    }

    int write(int block, long high, long low) {
        if (down) {
            return -4;
        }
        if (noBlock(block)) {
            return -1;
        }
        Entry e = storeOf(block, bytesOf(high, low));
        if (noRoom(e.units)) {
            return -3;
        }
        try {
            append(e);
            return e.units;
        } catch (WentDown d) {
            return -4;
        }
    }

    int trim(int block) {
        if (down) {
            return -4;
        }
        if (noBlock(block)) {
            return -1;
        }
        if (present(block) == null) {
            return -2;
        }
        if (noRoom(2)) {
            return -3;
        }
        Entry e = new Entry();
        e.block = block;
        e.units = 2;
        try {
            append(e);
            return 2;
        } catch (WentDown d) {
            return -4;
        }
    }

    long read(int block, int half) {
        if (down || noBlock(block) || half < 0 || half > 1 || present(block) == null) {
            return 0;
        }
        long answer = 0;
        for (int i = 0; i < 8; i++) {
            answer = answer * 256 + present(block).bytes[8 * half + i];
        }
        return answer;
    }

    int packed(int block, int k) {
        if (down) {
            return -4;
        }
        if (noBlock(block)) {
            return -1;
        }
        if (present(block) == null) {
            return -2;
        }
        List<Integer> form = present(block).form;
        if (k == -1) {
            return form.size();
        }
        return k < 0 || k >= form.size() ? -1 : form.get(k);
    }

    int place(int block) {
        if (down) {
            return -4;
        }
        if (noBlock(block)) {
            return -1;
        }
        Entry e = present(block);
        return e == null ? -2 : 16 * e.segment + e.unit;
    }

    int flush() {
        if (down) {
            return -4;
        }
        int before = written;
        try {
            save();
            return written - before;
        } catch (WentDown d) {
            return -4;
        }
    }

    int checkpoint() {
        if (down) {
            return -4;
        }
        try {
            mark();
            return number;
        } catch (WentDown d) {
            return -4;
        }
    }

    private List<Entry> liveIn(int segment) {
        List<Entry> found = new ArrayList<>();
        for (Entry e : latest.values()) {
            if (e.store && e.segment == segment) {
                found.add(e);
            }
        }
        found.sort(Comparator.comparingInt(e -> e.unit));
        return found;
    }

    private int liveUnits(int segment) {
        return liveIn(segment).stream().mapToInt(e -> e.units).sum();
    }

    int clean() {
        if (down) {
            return -4;
        }
        int chosen = -1;
        for (int s = segments - 1; s >= 0; s--) {
            if (states[s].equals("closed") && (chosen < 0 || liveUnits(s) <= liveUnits(chosen))) {
                chosen = s;
            }
        }
        if (chosen < 0) {
            return -2;
        }
        List<Entry> moved = liveIn(chosen);
        int left = UNITS - fill;
        int free = freeOnes();
        for (Entry e : moved) {
            if (e.units > left) {
                if (free == 0) {
                    return -3;
                }
                free--;
                left = UNITS;
            }
            left -= e.units;
        }
        try {
            mark();
            for (Entry e : moved) {
                append(storeOf(e.block, e.bytes));
            }
            mark();
            states[chosen] = "free";
            return moved.size();
        } catch (WentDown d) {
            return -4;
        }
    }

    boolean arm(int n) {
        if (down || n < 0 || n > 10000) {
            return false;
        }
        armed = n;
        return true;
    }

    boolean disarm() {
        if (down || armed == -1) {
            return false;
        }
        armed = -1;
        return true;
    }

    boolean crash() {
        boolean was = down;
        down = true;
        return !was;
    }

    private boolean whole(Entry e) {
        for (int i = 0; i < e.units; i++) {
            if (disk[e.segment][e.unit + i] != e || part[e.segment][e.unit + i] != i) {
                return false;
            }
        }
        return true;
    }

    private Mark latestMark() {
        Mark best = null;
        for (Mark[] area : areas) {
            boolean counts = area[0] != null;
            for (Mark m : area) {
                counts = counts && m == area[0];
            }
            if (counts && (best == null || area[0].number > best.number)) {
                best = area[0];
            }
        }
        return best;
    }

    private Entry onDisk(int wanted) {
        Entry found = null;
        for (Entry[] row : disk) {
            for (Entry e : row) {
                if (e != null && e != found && e.serial == wanted && whole(e)) {
                    if (found != null) {
                        throw new IllegalStateException("two records of serial " + wanted);
                    }
                    found = e;
                }
            }
        }
        return found;
    }

    int recover() {
        if (!down) {
            return -1;
        }
        down = false;
        armed = -1;
        Mark m = latestMark();
        latest.clear();
        for (Entry e : m.stores.values()) {
            if (!whole(e)) {
                throw new IllegalStateException("a record of the checkpoint is gone");
            }
            latest.put(e.block, e);
        }
        number = m.number;
        serial = m.serial;
        open = m.open;
        fill = m.fill;
        int rolled = 0;
        for (Entry e = onDisk(serial + 1); e != null; e = onDisk(serial + 1)) {
            latest.put(e.block, e);
            serial = e.serial;
            open = e.segment;
            fill = e.unit + e.units;
            rolled++;
        }
        saved = fill;
        inOpen.clear();
        for (int s = 0; s < segments; s++) {
            states[s] = s == open ? "open" : liveUnits(s) > 0 ? "closed" : "free";
        }
        mark();
        return rolled;
    }

    int live(int segment) {
        if (down) {
            return -4;
        }
        return segment < 0 || segment >= segments ? -1 : liveUnits(segment);
    }

    int segment(int segment) {
        if (down) {
            return -4;
        }
        return segment < 0 || segment >= segments ? -1 : Arrays.asList("free", "open", "closed").indexOf(states[segment]);
    }

    int look(int what) {
        int[] all = {fill, saved, serial, number, written, armed, down ? 1 : 0};
        if (what < 0 || what >= all.length) {
            return -1;
        }
        return down && what < 4 ? -4 : all[what];
    }
}
