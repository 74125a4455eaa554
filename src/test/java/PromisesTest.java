/** Each promise by itself: ordinary inputs, the edges that the document names, and wrong inputs. */
public final class PromisesTest {
    private static final Check CHECK = new Check();
    private static final int BAD = UnitLog.BAD;
    private static final int NONE = UnitLog.NONE;
    private static final int ROOM = UnitLog.ROOM;
    private static final int DOWN = UnitLog.DOWN;
    private static final int[] WRONG = {-1, 16, Integer.MIN_VALUE, Integer.MAX_VALUE};
    // No three bytes of it stand twice: a STORE record of these takes 6 units.
    private static final long PLAIN_HIGH = 0x0001020304050607L;
    private static final long PLAIN_LOW = 0x08090a0b0c0d0e0fL;

    public static void main(String[] args) {
        newObject();
        write();
        writeWithoutRoom();
        writeGoesDown();
        trim();
        trimWithoutRoomOrDown();
        read();
        packed();
        place();
        flush();
        checkpoint();
        clean();
        cleanChoosesAndOrders();
        cleanWithoutRoom();
        cleanGoesDown();
        arm();
        disarm();
        crash();
        recover();
        recoverRollsForward();
        recoverGivesSerialsAgain();
        live();
        segment();
        look();
        whileDown();
        CHECK.end();
    }

    /** Six units. */
    private static int plain(UnitLog log, int block) {
        return log.write(block, PLAIN_HIGH, PLAIN_LOW);
    }

    /** Three units. */
    private static int zeros(UnitLog log, int block) {
        return log.write(block, 0, 0);
    }

    /** Four units. */
    private static int four(UnitLog log, int block) {
        return log.write(block, 0, 0x0102);
    }

    /** Fills the open segment from unit 0 to unit 16: four records of four units. */
    private static void fillSegment(UnitLog log, int block) {
        for (int i = 0; i < 4; i++) {
            CHECK.due("filling", four(log, block + i), 4);
        }
    }

    private static void looks(UnitLog log, String at, int fill, int saved, int serial, int number, int written) {
        CHECK.due(at + ": FILL", log.look(0), fill);
        CHECK.due(at + ": SAVED", log.look(1), saved);
        CHECK.due(at + ": serial", log.look(2), serial);
        CHECK.due(at + ": checkpoint", log.look(3), number);
        CHECK.due(at + ": written", log.look(4), written);
    }

    private static void states(UnitLog log, String at, int... want) {
        for (int s = 0; s < want.length; s++) {
            CHECK.due(at + ": segment(" + s + ")", log.segment(s), want[s]);
        }
        CHECK.due(at + ": segment(" + want.length + ")", log.segment(want.length), BAD);
    }

    private static void lives(UnitLog log, String at, int... want) {
        for (int s = 0; s < want.length; s++) {
            CHECK.due(at + ": live(" + s + ")", log.live(s), want[s]);
        }
    }

    private static void newObject() {
        int[] wanted = {Integer.MIN_VALUE, -1, 0, 3, 4, 5, 6, 7, 8, 9, Integer.MAX_VALUE};
        int[] counts = {4, 4, 4, 4, 4, 5, 6, 7, 8, 8, 8};
        for (int i = 0; i < wanted.length; i++) {
            UnitLog log = new UnitLog(wanted[i]);
            int[] want = new int[counts[i]];
            want[0] = 1;
            states(log, "new " + wanted[i], want);
            lives(log, "new " + wanted[i], new int[counts[i]]);
            looks(log, "new " + wanted[i], 0, 0, 0, 0, 0);
            CHECK.due("new: armed", log.look(5), -1);
            CHECK.due("new: down", log.look(6), 0);
            for (int block = 0; block < 16; block++) {
                CHECK.due("new: place(" + block + ")", log.place(block), NONE);
                CHECK.due("new: packed(" + block + ", -1)", log.packed(block, -1), NONE);
                CHECK.due("new: read(" + block + ", 0)", log.read(block, 0), 0);
            }
        }
        UnitLog log = new UnitLog(4);
        zeros(log, 0);
        log.crash();
        CHECK.due("checkpoint 0 is all there is", log.recover(), 0);
        looks(log, "checkpoint 0", 0, 0, 0, 1, 20);
        CHECK.due("absent again", log.place(0), NONE);
        states(log, "checkpoint 0", 1, 0, 0, 0);
    }

    private static void write() {
        UnitLog log = new UnitLog(4);
        for (int block : WRONG) {
            CHECK.due("write(" + block + ")", log.write(block, 1, 1), BAD);
        }
        looks(log, "nothing was appended", 0, 0, 0, 0, 0);
        CHECK.due("write(0)", plain(log, 0), 6);
        CHECK.due("write(15)", zeros(log, 15), 3);
        CHECK.due("write(0) again", log.write(0, Long.MIN_VALUE, Long.MAX_VALUE), 4);
        looks(log, "not on the disk yet", 13, 0, 3, 0, 0);
        CHECK.due("highest byte", log.packed(0, 1), 128);
        CHECK.due("the latest counts, high", log.read(0, 0), Long.MIN_VALUE);
        CHECK.due("the latest counts, low", log.read(0, 1), Long.MAX_VALUE);
        CHECK.due("its place", log.place(0), 9);
        CHECK.due("more than 16 - FILL", four(log, 3), 4);
        CHECK.due("in the next segment", log.place(3), 16);
        looks(log, "next segment", 4, 0, 4, 0, 13);
        states(log, "next segment", 2, 1, 0, 0);
        lives(log, "next segment", 7, 4, 0, 0);
    }

    private static void writeWithoutRoom() {
        UnitLog log = new UnitLog(4);
        fillSegment(log, 0);
        looks(log, "full, still open", 16, 0, 4, 0, 0);
        states(log, "full, still open", 1, 0, 0, 0);
        fillSegment(log, 4);
        plain(log, 8);
        plain(log, 9);
        CHECK.due("more than 16 - FILL, one segment free", plain(log, 10), ROOM);
        CHECK.due("BAD before ROOM", plain(log, 16), BAD);
        looks(log, "nothing was done", 12, 0, 10, 0, 32);
        CHECK.due("just 16 - FILL, one segment free", four(log, 10), 4);
        CHECK.due("nothing is left", zeros(log, 11), ROOM);
        CHECK.due("nor to write over", zeros(log, 0), ROOM);
        CHECK.due("absent still", log.place(11), NONE);
        CHECK.due("as it was", log.place(0), 0);
        states(log, "one is kept free", 2, 2, 1, 0);
    }

    private static void writeGoesDown() {
        UnitLog log = new UnitLog(4);
        fillSegment(log, 0);
        log.arm(15);
        CHECK.due("the 16th unit fails", four(log, 4), DOWN);
        CHECK.due("written", log.look(4), 15);
        CHECK.due("armed with", log.look(5), 0);
        CHECK.due("down", log.look(6), 1);
        CHECK.due("three were whole", log.recover(), 3);
        looks(log, "behind the third", 12, 12, 3, 1, 35);
        CHECK.due("the fourth is lost", log.place(3), NONE);
        CHECK.due("the fifth was never appended", log.place(4), NONE);
        states(log, "one open", 1, 0, 0, 0);
        log.arm(4);
        four(log, 3);
        CHECK.due("no unit is to be written", log.look(6), 0);
        CHECK.due("just enough", four(log, 4), 4);
        CHECK.due("used up, but not down", log.look(5), 0);
        CHECK.due("not down", log.look(6), 0);
    }

    private static void trim() {
        UnitLog log = new UnitLog(4);
        for (int block : WRONG) {
            CHECK.due("trim(" + block + ")", log.trim(block), BAD);
        }
        CHECK.due("trim of an absent one", log.trim(0), NONE);
        looks(log, "nothing was appended", 0, 0, 0, 0, 0);
        zeros(log, 0);
        plain(log, 15);
        CHECK.due("trim(15)", log.trim(15), 2);
        CHECK.due("trim(15) again", log.trim(15), NONE);
        looks(log, "trimmed", 11, 0, 3, 0, 0);
        CHECK.due("absent", log.place(15), NONE);
        CHECK.due("read", log.read(15, 1), 0);
        CHECK.due("a TRIM record has no live units", log.live(0), 3);
        CHECK.due("written again", zeros(log, 15), 3);
        CHECK.due("behind the TRIM record", log.place(15), 11);
        CHECK.due("just 16 - FILL", log.trim(0), 2);
        CHECK.due("FILL", log.look(0), 16);
        CHECK.due("in the next segment", log.trim(15), 2);
        looks(log, "next segment", 2, 0, 6, 0, 16);
        states(log, "next segment", 2, 1, 0, 0);
        lives(log, "next segment", 0, 0, 0, 0);
        CHECK.due("saved", log.flush(), 2);
        log.crash();
        CHECK.due("all rolled forward", log.recover(), 6);
        CHECK.due("trimmed on the disk too", log.place(15), NONE);
        states(log, "nothing live", 0, 1, 0, 0);
    }

    private static void trimWithoutRoomOrDown() {
        UnitLog log = new UnitLog(4);
        for (int i = 0; i < 12; i++) {
            four(log, i);
        }
        CHECK.due("no room", log.trim(0), ROOM);
        CHECK.due("NONE before ROOM", log.trim(12), NONE);
        CHECK.due("BAD before ROOM", log.trim(16), BAD);
        CHECK.due("as it was", log.place(0), 0);
        looks(log, "nothing was done", 16, 0, 12, 0, 32);

        log = new UnitLog(4);
        fillSegment(log, 0);
        log.arm(0);
        CHECK.due("the first unit fails", log.trim(0), DOWN);
        CHECK.due("written", log.look(4), 0);
        CHECK.due("nothing is left", log.recover(), 0);
    }

    private static void read() {
        UnitLog log = new UnitLog(4);
        log.write(4, 0x8000000000000001L, -2L);
        CHECK.due("half 0", log.read(4, 0), 0x8000000000000001L);
        CHECK.due("half 1", log.read(4, 1), -2L);
        CHECK.due("half -1", log.read(4, -1), 0);
        CHECK.due("half 2", log.read(4, 2), 0);
        CHECK.due("absent", log.read(5, 0), 0);
        for (int block : WRONG) {
            CHECK.due("read(" + block + ", 0)", log.read(block, 0), 0);
            CHECK.due("read(" + block + ", 1)", log.read(block, 1), 0);
        }
        log.flush();
        log.crash();
        CHECK.due("down, half 0", log.read(4, 0), 0);
        CHECK.due("down, half 1", log.read(4, 1), 0);
        log.recover();
        CHECK.due("again", log.read(4, 1), -2L);
    }

    private static void packed() {
        UnitLog log = new UnitLog(4);
        for (int block : WRONG) {
            CHECK.due("packed(" + block + ", -1)", log.packed(block, -1), BAD);
        }
        CHECK.due("absent", log.packed(2, -1), NONE);
        CHECK.due("absent, before k", log.packed(2, -2), NONE);
        CHECK.due("absent, before k", log.packed(2, 99), NONE);
        zeros(log, 2);
        plain(log, 3);
        CHECK.due("how many", log.packed(2, -1), 3);
        CHECK.due("byte 0", log.packed(2, 0), 29);
        CHECK.due("byte 2", log.packed(2, 2), 1);
        CHECK.due("no byte 3", log.packed(2, 3), BAD);
        CHECK.due("no byte -2", log.packed(2, -2), BAD);
        CHECK.due("no such byte", log.packed(2, Integer.MIN_VALUE), BAD);
        CHECK.due("no such byte", log.packed(2, Integer.MAX_VALUE), BAD);
        CHECK.due("plain: how many", log.packed(3, -1), 16);
        CHECK.due("plain: byte 15", log.packed(3, 15), 15);
        CHECK.due("plain: no byte 16", log.packed(3, 16), BAD);
        CHECK.due("the other one's", log.packed(2, 0), 29);
        log.write(2, PLAIN_LOW, PLAIN_HIGH);
        CHECK.due("written over", log.packed(2, 0), 8);
        log.trim(3);
        CHECK.due("trimmed", log.packed(3, 0), NONE);
    }

    private static void place() {
        UnitLog log = new UnitLog(4);
        for (int block : WRONG) {
            CHECK.due("place(" + block + ")", log.place(block), BAD);
        }
        CHECK.due("absent", log.place(0), NONE);
        zeros(log, 0);
        plain(log, 1);
        plain(log, 2);
        plain(log, 3);
        CHECK.due("place(0)", log.place(0), 0);
        CHECK.due("place(1)", log.place(1), 3);
        CHECK.due("place(2)", log.place(2), 9);
        CHECK.due("place(3)", log.place(3), 16);
        zeros(log, 1);
        CHECK.due("the latest", log.place(1), 22);
        log.trim(1);
        CHECK.due("trimmed", log.place(1), NONE);
    }

    private static void flush() {
        UnitLog log = new UnitLog(4);
        log.arm(0);
        CHECK.due("nothing to write, armed with 0", log.flush(), 0);
        log.disarm();
        plain(log, 0);
        CHECK.due("six units", log.flush(), 6);
        CHECK.due("none", log.flush(), 0);
        zeros(log, 0);
        CHECK.due("those behind SAVED", log.flush(), 3);
        looks(log, "all saved", 9, 9, 2, 0, 9);
        plain(log, 1);
        log.arm(6);
        CHECK.due("just enough", log.flush(), 6);
        zeros(log, 2);
        CHECK.due("into the next segment", log.look(1), 0);
        log.arm(2);
        CHECK.due("one too few", log.flush(), DOWN);
        CHECK.due("written", log.look(4), 17);
        CHECK.due("rolled forward", log.recover(), 3);
        CHECK.due("not wholly on the disk", log.place(2), NONE);
        looks(log, "the segment of the last one", 15, 15, 3, 1, 37);
    }

    private static void checkpoint() {
        UnitLog log = new UnitLog(4);
        CHECK.due("the first", log.checkpoint(), 1);
        plain(log, 0);
        CHECK.due("the second", log.checkpoint(), 2);
        looks(log, "it saves", 6, 6, 1, 2, 46);
        log.arm(20);
        CHECK.due("just enough", log.checkpoint(), 3);
        log.arm(19);
        CHECK.due("one too few", log.checkpoint(), DOWN);
        CHECK.due("written", log.look(4), 85);
        CHECK.due("nothing behind the third", log.recover(), 0);
        looks(log, "the fourth did not count", 6, 6, 1, 4, 105);
        zeros(log, 1);
        log.arm(2);
        CHECK.due("down while it saves", log.checkpoint(), DOWN);
        CHECK.due("not whole", log.recover(), 0);
        CHECK.due("not whole", log.place(1), NONE);
        zeros(log, 1);
        log.trim(0);
        CHECK.due("next number", log.checkpoint(), 6);
        log.crash();
        CHECK.due("the checkpoint holds all", log.recover(), 0);
        CHECK.due("the store", log.place(1), 6);
        CHECK.due("the trim", log.place(0), NONE);
        looks(log, "what it held", 11, 11, 3, 7, 172);
    }

    private static void clean() {
        UnitLog log = new UnitLog(4);
        CHECK.due("none is closed", log.clean(), NONE);
        zeros(log, 0);
        CHECK.due("the open one is not closed", log.clean(), NONE);
        looks(log, "nothing is done", 3, 0, 1, 0, 0);
        plain(log, 1);
        plain(log, 2);
        four(log, 1);
        CHECK.due("two live records", log.clean(), 2);
        states(log, "free again", 0, 1, 0, 0);
        lives(log, "free again", 0, 13, 0, 0);
        CHECK.due("first by place", log.place(0), 20);
        CHECK.due("then", log.place(2), 23);
        CHECK.due("high", log.read(2, 0), PLAIN_HIGH);
        CHECK.due("low", log.read(2, 1), PLAIN_LOW);
        looks(log, "two checkpoints and two records", 13, 13, 6, 2, 15 + 13 + 40);
        four(log, 3);
        CHECK.due("the lowest free one", log.place(3), 0);
        four(log, 0);
        four(log, 1);
        four(log, 2);
        CHECK.due("nothing live", log.clean(), 0);
        states(log, "free again", 1, 0, 0, 0);
        looks(log, "two checkpoints and no record", 16, 16, 10, 4, 68 + 16 + 40);
        log.crash();
        CHECK.due("nothing is behind its checkpoint", log.recover(), 0);
        CHECK.due("all there", log.place(2), 12);
    }

    private static void cleanChoosesAndOrders() {
        UnitLog log = new UnitLog(6);
        fillSegment(log, 0);
        fillSegment(log, 4);
        fillSegment(log, 8);
        zeros(log, 0);
        zeros(log, 5);
        zeros(log, 7);
        zeros(log, 9);
        zeros(log, 10);
        lives(log, "before", 12, 8, 8, 15, 0, 0);
        CHECK.due("the fewest, of these the lowest", log.clean(), 2);
        states(log, "segment 1", 2, 0, 2, 2, 1, 0);
        CHECK.due("by place", log.place(4), 64);
        CHECK.due("by place", log.place(6), 68);
        CHECK.due("the next", log.clean(), 2);
        states(log, "segment 2", 2, 0, 0, 2, 1, 0);
        CHECK.due("by place", log.place(8), 72);
        CHECK.due("by place", log.place(11), 76);
        log.trim(8);
        log.trim(6);
        lives(log, "trimmed", 12, 0, 0, 15, 8, 0);

        // By place, not by block: the higher block lies first.
        log = new UnitLog(4);
        four(log, 9);
        plain(log, 2);
        plain(log, 5);
        zeros(log, 5);
        CHECK.due("two", log.clean(), 2);
        CHECK.due("block 9 first", log.place(9), 19);
        CHECK.due("block 2 then", log.place(2), 23);
    }

    private static void cleanWithoutRoom() {
        UnitLog log = new UnitLog(4);
        for (int i = 0; i < 12; i++) {
            four(log, i);
        }
        CHECK.due("the last free one may be used", log.clean(), 4);
        states(log, "the open one was full", 0, 2, 2, 1);
        CHECK.due("the cleaned one", log.clean(), 4);
        states(log, "once more", 1, 0, 2, 2);

        noSegmentFree();
    }

    /** Four segments used, as it is when the cleaner went down behind the first of its records. */
    private static UnitLog cleanedInPart() {
        UnitLog log = new UnitLog(4);
        for (int i = 0; i < 12; i++) {
            four(log, i);
        }
        log.arm(16 + 20 + 4);
        CHECK.due("down behind one record", log.clean(), DOWN);
        CHECK.due("one rolled forward", log.recover(), 1);
        states(log, "none free", 2, 2, 2, 1);
        lives(log, "none free", 12, 16, 16, 4);
        looks(log, "none free", 4, 4, 13, 2, 32 + 40 + 20);
        return log;
    }

    private static void noSegmentFree() {
        UnitLog log = cleanedInPart();
        CHECK.due("just enough", log.clean(), 3);
        states(log, "just enough", 0, 2, 2, 1);
        lives(log, "just enough", 0, 16, 16, 16);

        log = cleanedInPart();
        CHECK.due("fits", plain(log, 12), 6);
        CHECK.due("fits no more", log.clean(), ROOM);
        looks(log, "nothing is done", 10, 4, 14, 2, 92);
        states(log, "nothing is done", 2, 2, 2, 1);
        log.arm(0);
        CHECK.due("no unit is written", log.clean(), ROOM);
        CHECK.due("not down", log.look(6), 0);
        log.disarm();
        CHECK.due("the rest can be used", plain(log, 13), 6);
        CHECK.due("none is free", log.trim(1), ROOM);
        CHECK.due("none is free", zeros(log, 1), ROOM);
        CHECK.due("none is free", log.clean(), ROOM);

        // A record fewer to move.
        log = cleanedInPart();
        CHECK.due("one is absent", log.trim(2), 2);
        CHECK.due("the other two", log.clean(), 2);
        CHECK.due("by place", log.place(1), 48 + 6);
        CHECK.due("by place", log.place(3), 48 + 10);
        states(log, "one free", 0, 2, 2, 1);
    }

    private static void cleanGoesDown() {
        // Two live records of 9 units; 4 are to be saved first: 4 + 20, 9 + 20.
        for (int n = 0; n <= 53; n++) {
            UnitLog log = new UnitLog(4);
            zeros(log, 0);
            plain(log, 1);
            plain(log, 2);
            four(log, 1);
            log.arm(n);
            String at = "clean, armed with " + n;
            CHECK.due(at, log.clean(), n < 53 ? DOWN : 2);
            CHECK.due(at + ": down", log.look(6), n < 53 ? 1 : 0);
            CHECK.due(at + ": written", log.look(4), 15 + n);
            CHECK.due(at + ": armed", log.look(5), 0);
            if (n == 53) {
                log.crash();
            }
            int before = n < 4 ? 3 : 4;
            int moved = n < 27 ? 0 : n < 33 ? 1 : 2;
            int held = n < 24 ? 0 : n < 53 ? 4 : 6;
            CHECK.due(at + ": rolled", log.recover(), before + moved - held);
            CHECK.due(at + ": serial", log.look(2), before + moved);
            CHECK.due(at + ": checkpoint", log.look(3), n < 24 ? 1 : n < 53 ? 2 : 3);
            CHECK.due(at + ": block 0", log.place(0), moved > 0 ? 20 : 0);
            CHECK.due(at + ": block 1", log.place(1), n < 4 ? 3 : 16);
            CHECK.due(at + ": block 2", log.place(2), moved > 1 ? 23 : 9);
            CHECK.due(at + ": bytes", log.read(2, 1), PLAIN_LOW);
            CHECK.due(at + ": segment 0", log.segment(0), n < 4 ? 1 : moved > 1 ? 0 : 2);
            CHECK.due(at + ": segment 1", log.segment(1), n < 4 ? 0 : 1);
        }
    }

    private static void arm() {
        UnitLog log = new UnitLog(4);
        CHECK.due("arm(-1)", log.arm(-1), false);
        CHECK.due("arm(10001)", log.arm(10001), false);
        CHECK.due("arm(least)", log.arm(Integer.MIN_VALUE), false);
        CHECK.due("arm(most)", log.arm(Integer.MAX_VALUE), false);
        CHECK.due("not armed", log.look(5), -1);
        CHECK.due("arm(10000)", log.arm(10000), true);
        CHECK.due("armed", log.look(5), 10000);
        CHECK.due("arm(10001)", log.arm(10001), false);
        CHECK.due("as before", log.look(5), 10000);
        CHECK.due("arm(30)", log.arm(30), true);
        plain(log, 0);
        CHECK.due("no unit was written", log.look(5), 30);
        log.flush();
        CHECK.due("one less with each unit", log.look(5), 24);
        log.checkpoint();
        CHECK.due("those of a checkpoint too", log.look(5), 4);
        CHECK.due("arm(0)", log.arm(0), true);
        CHECK.due("armed with 0", log.look(5), 0);
        CHECK.due("not down for that", log.look(6), 0);
        CHECK.due("the next unit fails", log.checkpoint(), DOWN);
        CHECK.due("still 0", log.look(5), 0);
        CHECK.due("arm while down", log.arm(5), false);
        CHECK.due("still 0", log.look(5), 0);
    }

    private static void disarm() {
        UnitLog log = new UnitLog(4);
        CHECK.due("not armed", log.disarm(), false);
        log.arm(0);
        CHECK.due("armed with 0", log.disarm(), true);
        CHECK.due("not armed any more", log.look(5), -1);
        CHECK.due("not armed", log.disarm(), false);
        CHECK.due("nothing fails", log.checkpoint(), 1);
        log.arm(7);
        log.crash();
        CHECK.due("down", log.disarm(), false);
        CHECK.due("as it was", log.look(5), 7);
    }

    private static void crash() {
        UnitLog log = new UnitLog(4);
        plain(log, 0);
        log.flush();
        zeros(log, 1);
        log.arm(9);
        CHECK.due("crash", log.crash(), true);
        CHECK.due("down", log.look(6), 1);
        CHECK.due("armed still", log.look(5), 9);
        CHECK.due("written", log.look(4), 6);
        CHECK.due("crash again", log.crash(), false);
        CHECK.due("what is on the disk", log.recover(), 1);
        CHECK.due("up", log.look(6), 0);
        CHECK.due("saved", log.place(0), 0);
        CHECK.due("not saved", log.place(1), NONE);
    }

    private static void recover() {
        UnitLog log = new UnitLog(4);
        log.arm(3);
        CHECK.due("not down", log.recover(), BAD);
        CHECK.due("armed still", log.look(5), 3);
        CHECK.due("no checkpoint", log.look(3), 0);
        log.crash();
        CHECK.due("nothing to roll", log.recover(), 0);
        CHECK.due("not armed any more", log.look(5), -1);
        looks(log, "a checkpoint was made", 0, 0, 0, 1, 20);
        CHECK.due("not down any more", log.recover(), BAD);

        // Full at the checkpoint, and what is behind it in the next segment is lost: still the full one is open.
        log = new UnitLog(4);
        fillSegment(log, 0);
        log.checkpoint();
        plain(log, 5);
        states(log, "segment 1 open", 2, 1, 0, 0);
        log.crash();
        CHECK.due("none", log.recover(), 0);
        states(log, "segment 0 open", 1, 0, 0, 0);
        looks(log, "segment 0 open", 16, 16, 4, 2, 16 + 40);
        CHECK.due("opened anew", plain(log, 5), 6);
        CHECK.due("opened anew", log.place(5), 16);
    }

    private static void recoverRollsForward() {
        UnitLog log = new UnitLog(5);
        zeros(log, 0);
        log.checkpoint();
        four(log, 1);
        log.trim(0);
        plain(log, 2);
        plain(log, 1);
        plain(log, 3);
        four(log, 0);
        log.arm(13);
        CHECK.due("down behind two and a bit", log.flush(), DOWN);
        CHECK.due("rolled by serial", log.recover(), 5);
        looks(log, "behind block 3", 12, 12, 6, 2, 15 + 20 + 13 + 20);
        CHECK.due("trimmed", log.place(0), NONE);
        CHECK.due("the later one", log.place(1), 16);
        CHECK.due("its bytes", log.read(1, 0), PLAIN_HIGH);
        CHECK.due("block 2", log.place(2), 9);
        CHECK.due("block 3", log.place(3), 22);
        states(log, "one open", 2, 1, 0, 0, 0);
        lives(log, "one open", 6, 12, 0, 0, 0);

        // A record that ends with the last unit written is whole; the open segment is the last record's.
        log = new UnitLog(4);
        plain(log, 0);
        plain(log, 1);
        plain(log, 0);
        zeros(log, 1);
        log.arm(6);
        CHECK.due("down", log.flush(), DOWN);
        CHECK.due("three", log.recover(), 3);
        states(log, "segment 0 has block 1", 2, 1, 0, 0);
        CHECK.due("FILL", log.look(0), 6);

        // Without live units the other segments are free.
        log = new UnitLog(4);
        plain(log, 0);
        plain(log, 0);
        plain(log, 0);
        log.flush();
        states(log, "closed before", 2, 1, 0, 0);
        log.crash();
        log.recover();
        states(log, "free then", 0, 1, 0, 0);
    }

    private static void recoverGivesSerialsAgain() {
        UnitLog log = new UnitLog(4);
        plain(log, 0);
        plain(log, 1);
        log.arm(11);
        CHECK.due("down", log.flush(), DOWN);
        CHECK.due("one", log.recover(), 1);
        zeros(log, 2);
        CHECK.due("the next serial", log.look(2), 2);
        CHECK.due("behind the first", log.place(2), 6);
        // Units 7 and 8 hold what was lost: the new record is not whole with them.
        log.arm(1);
        CHECK.due("down", log.flush(), DOWN);
        CHECK.due("none", log.recover(), 0);
        CHECK.due("lost", log.place(2), NONE);
        CHECK.due("lost", log.place(1), NONE);
        zeros(log, 3);
        log.flush();
        log.crash();
        CHECK.due("one", log.recover(), 1);
        CHECK.due("whole", log.place(3), 6);
        looks(log, "behind it", 9, 9, 2, 3, 11 + 20 + 1 + 20 + 3 + 20);
    }

    private static void live() {
        UnitLog log = new UnitLog(4);
        int[] wrong = {-1, 4, Integer.MIN_VALUE, Integer.MAX_VALUE};
        for (int s : wrong) {
            CHECK.due("live(" + s + ")", log.live(s), BAD);
        }
        CHECK.due("live(7) of eight", new UnitLog(8).live(7), 0);
        CHECK.due("live(8) of eight", new UnitLog(8).live(8), BAD);
        plain(log, 0);
        zeros(log, 1);
        CHECK.due("all, saved or not", log.live(0), 9);
        four(log, 0);
        CHECK.due("the latest only", log.live(0), 7);
        log.trim(1);
        CHECK.due("not the trimmed one, nor its TRIM record", log.live(0), 4);
        plain(log, 0);
        lives(log, "in the next segment", 0, 6, 0, 0);
    }

    private static void segment() {
        UnitLog log = new UnitLog(4);
        int[] wrong = {-1, 4, Integer.MIN_VALUE, Integer.MAX_VALUE};
        for (int s : wrong) {
            CHECK.due("segment(" + s + ")", log.segment(s), BAD);
        }
        states(log, "new", 1, 0, 0, 0);
        fillSegment(log, 0);
        four(log, 0);
        four(log, 1);
        four(log, 2);
        states(log, "the second", 2, 1, 0, 0);
        four(log, 3);
        lives(log, "the second", 0, 16, 0, 0);
        states(log, "closed without live units", 2, 1, 0, 0);
        log.clean();
        states(log, "cleaned", 0, 1, 0, 0);
    }

    private static void look() {
        UnitLog log = new UnitLog(4);
        int[] wrong = {-1, 7, Integer.MIN_VALUE, Integer.MAX_VALUE};
        for (int what : wrong) {
            CHECK.due("look(" + what + ")", log.look(what), BAD);
        }
        plain(log, 0);
        log.flush();
        zeros(log, 1);
        log.trim(0);
        looks(log, "at work", 11, 6, 3, 0, 6);
        log.arm(40);
        log.checkpoint();
        looks(log, "checkpoint", 11, 11, 3, 1, 31);
        CHECK.due("armed", log.look(5), 15);
        CHECK.due("not down", log.look(6), 0);
        log.crash();
        looks(log, "down", DOWN, DOWN, DOWN, DOWN, 31);
        CHECK.due("armed", log.look(5), 15);
        CHECK.due("down", log.look(6), 1);
        for (int what : wrong) {
            CHECK.due("down: look(" + what + ")", log.look(what), BAD);
        }
    }

    private static void whileDown() {
        UnitLog log = new UnitLog(4);
        plain(log, 0);
        log.crash();
        int[] blocks = {0, 1, -1, 16};
        for (int block : blocks) {
            CHECK.due("down: write", plain(log, block), DOWN);
            CHECK.due("down: trim", log.trim(block), DOWN);
            CHECK.due("down: read", log.read(block, 0), 0);
            CHECK.due("down: packed", log.packed(block, -1), DOWN);
            CHECK.due("down: packed", log.packed(block, 99), DOWN);
            CHECK.due("down: place", log.place(block), DOWN);
            CHECK.due("down: live", log.live(block), DOWN);
            CHECK.due("down: segment", log.segment(block), DOWN);
        }
        CHECK.due("down: flush", log.flush(), DOWN);
        CHECK.due("down: checkpoint", log.checkpoint(), DOWN);
        CHECK.due("down: clean", log.clean(), DOWN);
        CHECK.due("down: arm", log.arm(1), false);
        CHECK.due("down: arm", log.arm(-1), false);
        CHECK.due("down: disarm", log.disarm(), false);
        CHECK.due("down: crash", log.crash(), false);
        CHECK.due("down: written", log.look(4), 0);
        CHECK.due("down: armed", log.look(5), -1);
        CHECK.due("up", log.recover(), 0);
        looks(log, "up", 0, 0, 0, 1, 20);
    }
}
