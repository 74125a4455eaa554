import java.util.Arrays;

/** A store of blocks that is written as a log; ../shared/DOC.md says what each call answers. */
public final class UnitLog {
    public static final int BAD = -1;
    public static final int NONE = -2;
    public static final int ROOM = -3;
    public static final int DOWN = -4;

    private static final int BLOCKS = 16;
    private static final int LEAST_SEGMENTS = 4;
    private static final int MOST_SEGMENTS = 8;
    private static final int SEGMENT_UNITS = 16;
    private static final int AREA_UNITS = 20;
    private static final int TRIM_UNITS = 2;
    private static final int MOST_ARMED = 10000;
    private static final int NOT_ARMED = -1;
    private static final int NOWHERE = -1;
    private static final int FREE = 0;
    private static final int OPEN = 1;
    private static final int CLOSED = 2;

    private final Disk disk;
    private final Packer packer;
    private final Records records;
    // Only the latest one that counts is ever looked at, so the other area's need not be kept.
    private final Checkpoint counting;
    private final int[] states;
    // Where each block's latest record begins; NOWHERE if the block is absent.
    private final int[] places;
    private int open;
    private int fill;
    private int saved;
    private int serial;
    private boolean down;

    public UnitLog(int segments) {
        int count = Math.max(LEAST_SEGMENTS, Math.min(MOST_SEGMENTS, segments));
        disk = new Disk();
        packer = new Packer();
        records = new Records(count * SEGMENT_UNITS);
        counting = new Checkpoint();
        states = new int[count];
        states[0] = OPEN;
        places = new int[BLOCKS];
        Arrays.fill(places, NOWHERE);
    }

    public int write(int block, long high, long low) {
        if (down) {
            return DOWN;
        }
        if (!isBlock(block)) {
            return BAD;
        }
        packer.pack(high, low);
        int units = packer.storeUnits();
        if (!mayAppend(units)) {
            return ROOM;
        }
        return append(block, units, true, high, low) ? units : goDown();
    }

    public int trim(int block) {
        if (down) {
            return DOWN;
        }
        if (!isBlock(block)) {
            return BAD;
        }
        if (places[block] == NOWHERE) {
            return NONE;
        }
        if (!mayAppend(TRIM_UNITS)) {
            return ROOM;
        }
        return append(block, TRIM_UNITS, false, 0, 0) ? TRIM_UNITS : goDown();
    }

    public long read(int block, int half) {
        if (down || !isBlock(block) || places[block] == NOWHERE) {
            return 0;
        }
        if (half == 0) {
            return records.highs[places[block]];
        }
        return half == 1 ? records.lows[places[block]] : 0;
    }

    public int packed(int block, int k) {
        if (down) {
            return DOWN;
        }
        if (!isBlock(block)) {
            return BAD;
        }
        int at = places[block];
        if (at == NOWHERE) {
            return NONE;
        }
        packer.pack(records.highs[at], records.lows[at]);
        if (k == -1) {
            return packer.size;
        }
        return k >= 0 && k < packer.size ? packer.form[k] : BAD;
    }

    public int place(int block) {
        if (down) {
            return DOWN;
        }
        if (!isBlock(block)) {
            return BAD;
        }
        return places[block] == NOWHERE ? NONE : places[block];
    }

    public int flush() {
        if (down) {
            return DOWN;
        }
        int units = fill - saved;
        return saveUnits() ? units : goDown();
    }

    public int checkpoint() {
        if (down) {
            return DOWN;
        }
        return makeCheckpoint() ? counting.number : goDown();
    }

    public int clean() {
        if (down) {
            return DOWN;
        }
        int emptied = closedWithFewestLive();
        if (emptied == NOWHERE) {
            return NONE;
        }
        if (!liveRecordsHaveRoom(emptied)) {
            return ROOM;
        }
        if (!makeCheckpoint()) {
            return goDown();
        }
        int appended = appendLiveRecords(emptied);
        if (appended == DOWN || !makeCheckpoint()) {
            return goDown();
        }
        states[emptied] = FREE;
        return appended;
    }

    public boolean arm(int n) {
        if (down || n < 0 || n > MOST_ARMED) {
            return false;
        }
        disk.armed = n;
        return true;
    }

    public boolean disarm() {
        if (down || disk.armed == NOT_ARMED) {
            return false;
        }
        disk.armed = NOT_ARMED;
        return true;
    }

    public boolean crash() {
        if (down) {
            return false;
        }
        goDown();
        return true;
    }

    public int recover() {
        if (!down) {
            return BAD;
        }
        down = false;
        disk.armed = NOT_ARMED;
        returnToCheckpoint();
        int rolled = rollForward();
        saved = fill;
        sortSegments();
        return makeCheckpoint() ? rolled : goDown();
    }

    public int live(int segment) {
        if (down) {
            return DOWN;
        }
        return isSegment(segment) ? liveUnits(segment) : BAD;
    }

    public int segment(int segment) {
        if (down) {
            return DOWN;
        }
        return isSegment(segment) ? states[segment] : BAD;
    }

    public int look(int what) {
        switch (what) {
            case 0:
                return down ? DOWN : fill;
            case 1:
                return down ? DOWN : saved;
            case 2:
                return down ? DOWN : serial;
            case 3:
                return down ? DOWN : counting.number;
            case 4:
                return disk.written;
            case 5:
                return disk.armed;
            case 6:
                return down ? 1 : 0;
            default:
                return BAD;
        }
    }

    private static boolean isBlock(int block) {
        return block >= 0 && block < BLOCKS;
    }

    private boolean isSegment(int segment) {
        return segment >= 0 && segment < states.length;
    }

    /** The last free segment is kept for the cleaner, which could not begin without it. */
    private boolean mayAppend(int units) {
        return units <= SEGMENT_UNITS - fill || freeSegments() > 1;
    }

    private int freeSegments() {
        int free = 0;
        for (int s = 0; s < states.length; s++) {
            if (states[s] == FREE) {
                free++;
            }
        }
        return free;
    }

    private int lowestFree() {
        for (int s = 0; s < states.length; s++) {
            if (states[s] == FREE) {
                return s;
            }
        }
        return NOWHERE;
    }

    /** False if the store is to go down; then the record has not been appended. */
    private boolean append(int block, int units, boolean store, long high, long low) {
        if (units > SEGMENT_UNITS - fill && !openNext()) {
            return false;
        }
        int at = open * SEGMENT_UNITS + fill;
        serial++;
        records.serials[at] = serial;
        records.blocks[at] = block;
        records.units[at] = units;
        records.stores[at] = store;
        records.highs[at] = high;
        records.lows[at] = low;
        places[block] = store ? at : NOWHERE;
        fill += units;
        return true;
    }

    /** Who appends has looked for room before, so that it is the disk alone that can fail here. */
    private boolean openNext() {
        int next = lowestFree();
        if (next == NOWHERE || !saveUnits()) {
            return false;
        }
        states[open] = CLOSED;
        states[next] = OPEN;
        open = next;
        fill = 0;
        saved = 0;
        return true;
    }

    private boolean saveUnits() {
        for (int unit = saved; unit < fill; unit++) {
            if (!disk.writeUnit()) {
                return false;
            }
            saved = unit + 1;
        }
        return true;
    }

    private boolean makeCheckpoint() {
        if (!saveUnits()) {
            return false;
        }
        for (int unit = 0; unit < AREA_UNITS; unit++) {
            if (!disk.writeUnit()) {
                return false;
            }
        }
        counting.number++;
        counting.serial = serial;
        counting.open = open;
        counting.fill = fill;
        System.arraycopy(places, 0, counting.places, 0, BLOCKS);
        return true;
    }

    /** Answers DOWN, so that a call can end with it. */
    private int goDown() {
        down = true;
        records.forgetUnsaved(open, saved);
        return DOWN;
    }

    private void returnToCheckpoint() {
        serial = counting.serial;
        open = counting.open;
        fill = counting.fill;
        System.arraycopy(counting.places, 0, places, 0, BLOCKS);
    }

    private int rollForward() {
        int rolled = 0;
        for (int n = 0; n < records.serials.length; n++) {
            int at = records.find(serial + 1);
            if (at == NOWHERE) {
                break;
            }
            serial++;
            places[records.blocks[at]] = records.stores[at] ? at : NOWHERE;
            open = at / SEGMENT_UNITS;
            fill = at % SEGMENT_UNITS + records.units[at];
            rolled++;
        }
        return rolled;
    }

    private void sortSegments() {
        for (int s = 0; s < states.length; s++) {
            states[s] = liveUnits(s) > 0 ? CLOSED : FREE;
        }
        states[open] = OPEN;
    }

    /** A place where no record begins is never the latest of any block, whatever block stands there. */
    private boolean isLive(int at) {
        return places[records.blocks[at]] == at;
    }

    private int liveUnits(int segment) {
        int begin = segment * SEGMENT_UNITS;
        int units = 0;
        for (int at = begin; at < begin + SEGMENT_UNITS; at++) {
            if (isLive(at)) {
                units += records.units[at];
            }
        }
        return units;
    }

    private int closedWithFewestLive() {
        int best = NOWHERE;
        int fewest = SEGMENT_UNITS + 1;
        for (int s = 0; s < states.length; s++) {
            if (states[s] == CLOSED && liveUnits(s) < fewest) {
                best = s;
                fewest = liveUnits(s);
            }
        }
        return best;
    }

    private boolean liveRecordsHaveRoom(int segment) {
        int begin = segment * SEGMENT_UNITS;
        int free = freeSegments();
        int filled = fill;
        for (int at = begin; at < begin + SEGMENT_UNITS; at++) {
            if (!isLive(at)) {
                continue;
            }
            if (records.units[at] > SEGMENT_UNITS - filled) {
                free--;
                filled = 0;
            }
            filled += records.units[at];
        }
        return free >= 0;
    }

    /** How many, or DOWN if the store is to go down. */
    private int appendLiveRecords(int segment) {
        int begin = segment * SEGMENT_UNITS;
        int appended = 0;
        for (int at = begin; at < begin + SEGMENT_UNITS; at++) {
            if (!isLive(at)) {
                continue;
            }
            if (!append(records.blocks[at], records.units[at], true, records.highs[at], records.lows[at])) {
                return DOWN;
            }
            appended++;
        }
        return appended;
    }

    /** Counts units only: what they hold stands in Records, and SAVED tells how far it is on the disk. */
    private static final class Disk {
        private int armed = NOT_ARMED;
        private int written;

        boolean writeUnit() {
            if (armed == 0) {
                return false;
            }
            if (armed > 0) {
                armed--;
            }
            written++;
            return true;
        }
    }

    private static final class Checkpoint {
        private final int[] places = new int[BLOCKS];
        private int number;
        private int serial;
        private int open;
        private int fill;

        Checkpoint() {
            Arrays.fill(places, NOWHERE);
        }
    }

    /**
     * The records of all segments, each under the place where it begins: 16 * segment + unit. What a free segment
     * held may stay: none of its serials is above that of the checkpoint made when it became free.
     */
    private static final class Records {
        // 0 where no record has begun yet, or where it was lost.
        private final int[] serials;
        private final int[] blocks;
        private final int[] units;
        private final boolean[] stores;
        private final long[] highs;
        private final long[] lows;

        Records(int size) {
            serials = new int[size];
            blocks = new int[size];
            units = new int[size];
            stores = new boolean[size];
            highs = new long[size];
            lows = new long[size];
        }

        int find(int serial) {
            for (int at = 0; at < serials.length; at++) {
                if (serials[at] == serial) {
                    return at;
                }
            }
            return NOWHERE;
        }

        /** Serials are given again after a recovery, so a lost record must not be found under its own. */
        void forgetUnsaved(int segment, int saved) {
            int begin = segment * SEGMENT_UNITS;
            for (int unit = 0; unit < SEGMENT_UNITS; unit++) {
                if (unit + units[begin + unit] > saved) {
                    serials[begin + unit] = 0;
                }
            }
        }
    }

    /** Its rows are used again by each packing, so that a call makes no object. */
    private static final class Packer {
        private static final int BYTES = 16;
        private static final int LEAST_MATCH = 3;
        private static final int MOST_LITERALS = 15;
        // 16 literals in two pieces are the longest packed form: a match always saves a byte.
        private static final int LONGEST = BYTES + 2;

        private final int[] bytes = new int[BYTES];
        private final int[] form = new int[LONGEST];
        private int size;

        void pack(long high, long low) {
            for (int i = 0; i < 8; i++) {
                bytes[i] = (int) (high >>> (56 - 8 * i)) & 255;
                bytes[8 + i] = (int) (low >>> (56 - 8 * i)) & 255;
            }
            makePieces();
            if (size >= BYTES) {
                System.arraycopy(bytes, 0, form, 0, BYTES);
                size = BYTES;
            }
        }

        int storeUnits() {
            return 2 + (size + 3) / 4;
        }

        private void makePieces() {
            size = 0;
            int begin = 0;
            int i = 0;
            while (i < BYTES) {
                int j = longestMatch(i);
                if (j != NOWHERE) {
                    int length = sameBytes(j, i);
                    endPiece(begin, i, length - 2);
                    form[size++] = i - j;
                    i += length;
                    begin = i;
                } else {
                    i++;
                    if (i - begin == MOST_LITERALS) {
                        endPiece(begin, i, 0);
                        begin = i;
                    }
                }
            }
            if (begin < BYTES) {
                endPiece(begin, BYTES, 0);
            }
        }

        private void endPiece(int begin, int end, int m) {
            form[size++] = 16 * (end - begin) + m;
            for (int i = begin; i < end; i++) {
                form[size++] = bytes[i];
            }
        }

        /** Goes down from i, so that of equal lengths the greatest j stays. */
        private int longestMatch(int i) {
            int best = NOWHERE;
            int longest = LEAST_MATCH - 1;
            for (int j = i - 1; j >= 0; j--) {
                int length = sameBytes(j, i);
                if (length > longest) {
                    best = j;
                    longest = length;
                }
            }
            return best;
        }

        private int sameBytes(int j, int i) {
            int length = 0;
            while (i + length < BYTES && bytes[j + length] == bytes[i + length]) {
                length++;
            }
            return length;
        }
    }
}
