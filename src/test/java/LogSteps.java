/** What the tests of calls share: records of known sizes, looks at a store, and stores in states worth testing. */
abstract class LogSteps {
    static final Check CHECK = new Check();
    static final int BAD = UnitLog.BAD;
    static final int NONE = UnitLog.NONE;
    static final int ROOM = UnitLog.ROOM;
    static final int DOWN = UnitLog.DOWN;
    static final int FREE = 0;
    static final int OPEN = 1;
    static final int CLOSED = 2;
    static final int[] NO_BLOCKS = {-1, 16, -2, 17, -16, 32, 256, Integer.MIN_VALUE, Integer.MAX_VALUE};
    // No three bytes of it stand twice: a STORE record of these takes 6 units.
    static final long PLAIN_HIGH = 0x0001020304050607L;
    static final long PLAIN_LOW = 0x08090a0b0c0d0e0fL;

    static void sentence(String words, Runnable test) {
        CHECK.sentence(words, test);
    }

    /** A record of six units. */
    static int six(UnitLog log, int block) {
        return log.write(block, PLAIN_HIGH, PLAIN_LOW);
    }

    /** A record of five units. */
    static int five(UnitLog log, int block) {
        return log.write(block, PLAIN_HIGH, PLAIN_HIGH);
    }

    /** A record of four units. */
    static int four(UnitLog log, int block) {
        return log.write(block, 0, 0x0102);
    }

    /** A record of three units. */
    static int three(UnitLog log, int block) {
        return log.write(block, 0, 0);
    }

    /** Four records of four units: just what a segment has. */
    static void fillSegment(UnitLog log, int block) {
        for (int i = 0; i < 4; i++) {
            CHECK.due("filling a segment", four(log, block + i), 4);
        }
    }

    static void looks(UnitLog log, String at, int fill, int saved, int serial, int number, int written) {
        CHECK.due(at + ": FILL", log.look(0), fill);
        CHECK.due(at + ": SAVED", log.look(1), saved);
        CHECK.due(at + ": serial", log.look(2), serial);
        CHECK.due(at + ": checkpoint", log.look(3), number);
        CHECK.due(at + ": written", log.look(4), written);
    }

    /** The states of all segments, and that there is none behind these. */
    static void states(UnitLog log, String at, int... want) {
        for (int s = 0; s < want.length; s++) {
            CHECK.due(at + ": segment(" + s + ")", log.segment(s), want[s]);
        }
        CHECK.due(at + ": segment(" + want.length + ")", log.segment(want.length), BAD);
    }

    static void lives(UnitLog log, String at, int... want) {
        for (int s = 0; s < want.length; s++) {
            CHECK.due(at + ": live(" + s + ")", log.live(s), want[s]);
        }
    }

    static void absent(UnitLog log, String at, int... blocks) {
        for (int block : blocks) {
            CHECK.due(at + ": place(" + block + ")", log.place(block), NONE);
            CHECK.due(at + ": packed(" + block + ", -1)", log.packed(block, -1), NONE);
            CHECK.due(at + ": read(" + block + ", 0)", log.read(block, 0), 0);
            CHECK.due(at + ": read(" + block + ", 1)", log.read(block, 1), 0);
        }
    }

    /** All that can be asked of a store, by 71 calls of the 512 that it has. */
    static String all(UnitLog log) {
        StringBuilder text = new StringBuilder();
        for (int what = 0; what < 7; what++) {
            text.append(log.look(what)).append(' ');
        }
        for (int segment = 0; segment < 8; segment++) {
            text.append(log.segment(segment)).append('/').append(log.live(segment)).append(' ');
        }
        for (int block = 0; block < 16; block++) {
            text.append(log.place(block)).append('=');
            text.append(log.read(block, 0)).append('/').append(log.read(block, 1)).append(' ');
        }
        return text.toString();
    }

    /** Segments 0 and 1 closed and full, 2 open with FILL 3, 3 free. Nine records, 32 units written. */
    static UnitLog oneFree() {
        UnitLog log = new UnitLog(4);
        fillSegment(log, 0);
        fillSegment(log, 4);
        CHECK.due("opening segment 2", three(log, 8), 3);
        states(log, "one free", CLOSED, CLOSED, OPEN, FREE);
        looks(log, "one free", 3, 0, 9, 0, 32);
        return log;
    }

    /**
     * Segments 0, 1 and 2 closed with 12, 16 and 16 live units, 3 open with FILL 4, none free: so it is when the
     * cleaner went down behind the first of its records. 13 records, checkpoint 2, 92 units written.
     */
    static UnitLog noneFree() {
        UnitLog log = new UnitLog(4);
        fillSegment(log, 0);
        fillSegment(log, 4);
        fillSegment(log, 8);
        log.arm(16 + 20 + 4);
        CHECK.due("the cleaner goes down behind one record", log.clean(), DOWN);
        CHECK.due("one is rolled forward", log.recover(), 1);
        states(log, "none free", CLOSED, CLOSED, CLOSED, OPEN);
        lives(log, "none free", 12, 16, 16, 4);
        looks(log, "none free", 4, 4, 13, 2, 92);
        return log;
    }
}
