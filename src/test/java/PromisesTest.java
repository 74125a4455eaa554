/** Promises 1 to 8 and 10 to 16: each sentence has a test of its own ('..': words left out); CleanTest has promise 9. */
public final class PromisesTest extends LogSteps {
    private static final int[] NO_SEGMENTS = {-1, 4, -2, 5, -4, 8, 16, Integer.MIN_VALUE, Integer.MAX_VALUE};

    public static void main(String[] args) {
        newObject();
        write();
        trim();
        readPackedPlace();
        flushAndCheckpoint();
        armDisarmCrash();
        recover();
        liveAndSegment();
        look();
        CHECK.end();
    }

    private static void newObject() {
        sentence("1: A new store with that many segments", PromisesTest::thatManySegments);
        sentence("1: 4 if fewer", PromisesTest::fourIfFewer);
        sentence("1: 8 if more", PromisesTest::eightIfMore);
        sentence("1: all blocks absent", PromisesTest::allBlocksAbsent);
        sentence("1: segment 0 open, the others free", PromisesTest::segmentZeroOpen);
        sentence("1: nothing written but checkpoint 0", PromisesTest::nothingWritten);
        sentence("1: not armed, not down", PromisesTest::notArmedNotDown);
    }

    private static void write() {
        sentence("2: bytes 0 .. 7 of the block are those of high, the highest first", PromisesTest::bytesOfHigh);
        sentence("2: bytes 8 .. 15 those of low", PromisesTest::bytesOfLow);
        sentence("2: how many units it takes", PromisesTest::writeTakesUnits);
        sentence("2: DOWN", PromisesTest::writeWhileDown);
        sentence("2: BAD: block isn't 0 .. 15", PromisesTest::writeBadBlock);
        sentence("2: ROOM: it needs more than 16 - FILL units", PromisesTest::writeNeedsMore);
        sentence("2: and only one segment, .. is free", PromisesTest::writeWithOneFree);
        sentence("2: or none, is free", PromisesTest::writeWithNoneFree);
        sentence("2: ROOM", PromisesTest::writeRefusedDoesNothing);
        sentence("2: DOWN, if the store goes down", PromisesTest::writeGoesDown);
    }

    private static void trim() {
        sentence("3: Appends a TRIM record: 2", PromisesTest::trimAppends);
        sentence("3: DOWN", PromisesTest::trimWhileDown);
        sentence("3: BAD: block isn't 0 .. 15", PromisesTest::trimBadBlock);
        sentence("3: NONE: it is absent", PromisesTest::trimAbsent);
        sentence("3: ROOM as with write", PromisesTest::trimWithoutRoom);
        sentence("3: DOWN, if the store goes down", PromisesTest::trimGoesDown);
    }

    private static void readPackedPlace() {
        sentence("4: Bytes 0 .. 7 (half 0) or 8 .. 15 (half 1) of a block, the first one highest", PromisesTest::readHalves);
        sentence("4: 0 if it is absent", PromisesTest::readAbsent);
        sentence("4: 0 if .. DOWN", PromisesTest::readWhileDown);
        sentence("4: 0 if .. block .. isn't one", PromisesTest::readBadBlock);
        sentence("4: 0 if .. half isn't one", PromisesTest::readBadHalf);
        sentence("5: Byte k (from 0) of the stored form of a block: 0 .. 255", PromisesTest::packedBytes);
        sentence("5: with k = -1 how many it has", PromisesTest::packedHowMany);
        sentence("5: DOWN", PromisesTest::packedWhileDown);
        sentence("5: BAD: block isn't 0 .. 15", PromisesTest::packedBadBlock);
        sentence("5: or there is no such byte", PromisesTest::packedNoSuchByte);
        sentence("5: NONE: it is absent (tested before k)", PromisesTest::packedAbsent);
        sentence("6: 16 * segment + unit, where the latest record of a block begins", PromisesTest::placeOfLatest);
        sentence("6: DOWN", PromisesTest::placeWhileDown);
        sentence("6: BAD: block isn't 0 .. 15", PromisesTest::placeBadBlock);
        sentence("6: NONE: it is absent", PromisesTest::placeAbsent);
    }

    private static void flushAndCheckpoint() {
        sentence("7: Saves: how many units were written", PromisesTest::flushSaves);
        sentence("7: DOWN", PromisesTest::flushWhileDown);
        sentence("7: also if the store goes down", PromisesTest::flushGoesDown);
        sentence("8: Makes a checkpoint: its number", PromisesTest::checkpointNumber);
        sentence("8: DOWN", PromisesTest::checkpointWhileDown);
        sentence("8: also if the store goes down", PromisesTest::checkpointGoesDown);
    }

    private static void armDisarmCrash() {
        sentence("10: Arms the disk with n", PromisesTest::armWithN);
        sentence("10: false if it is DOWN", PromisesTest::armWhileDown);
        sentence("10: or n isn't 0 .. 10000", PromisesTest::armBadNumber);
        sentence("11: The disk isn't armed any more", PromisesTest::disarmed);
        sentence("11: false if it is DOWN", PromisesTest::disarmWhileDown);
        sentence("11: or it wasn't armed", PromisesTest::disarmNotArmed);
        sentence("12: The store is down from now on", PromisesTest::crashGoesDown);
        sentence("12: false if it is DOWN", PromisesTest::crashWhileDown);
    }

    private static void recover() {
        sentence("13: The disk isn't armed any more", PromisesTest::recoverDisarms);
        sentence("13: how many records were rolled forward", PromisesTest::recoverCounts);
        sentence("13: BAD if the store isn't down", PromisesTest::recoverNotDown);
    }

    private static void liveAndSegment() {
        sentence("14: How many live units a segment has", PromisesTest::liveUnits);
        sentence("14: DOWN", PromisesTest::liveWhileDown);
        sentence("14: BAD if there is no such segment", PromisesTest::liveNoSuchSegment);
        sentence("15: 0 FREE, 1 OPEN, 2 CLOSED", PromisesTest::segmentStates);
        sentence("15: DOWN", PromisesTest::segmentWhileDown);
        sentence("15: BAD if there is no such segment", PromisesTest::segmentNoSuchSegment);
    }

    private static void look() {
        sentence("16: what 0 FILL", PromisesTest::lookFill);
        sentence("16: 1 SAVED", PromisesTest::lookSaved);
        sentence("16: 2 the serial of the latest record, 0 if there was none", PromisesTest::lookSerial);
        sentence("16: 3 the number of the latest checkpoint that counts", PromisesTest::lookCheckpoint);
        sentence("16: (these four are DOWN while the store is down)", PromisesTest::lookWhileDown);
        sentence("16: 4 how many units were written since the beginning (checkpoint 0 not)", PromisesTest::lookWritten);
        sentence("16: 5 with how many the disk is armed, -1 if it isn't", PromisesTest::lookArmed);
        sentence("16: 6 whether the store is down, 1 or 0", PromisesTest::lookDown);
        sentence("16: BAD if what is another number", PromisesTest::lookAnother);
    }

    /** A store that is down, with two records on the disk, block 0 there and block 1 trimmed in memory alone. */
    private static UnitLog down() {
        UnitLog log = new UnitLog(4);
        six(log, 0);
        three(log, 1);
        log.flush();
        log.trim(1);
        CHECK.due("crash", log.crash(), true);
        return log;
    }

    // Promise 1

    private static void segments(int wanted, int count) {
        UnitLog log = new UnitLog(wanted);
        for (int s = 0; s < count; s++) {
            CHECK.due("new " + wanted + ": segment(" + s + ")", log.segment(s), s == 0 ? OPEN : FREE);
            CHECK.due("new " + wanted + ": live(" + s + ")", log.live(s), 0);
        }
        CHECK.due("new " + wanted + ": segment(" + count + ")", log.segment(count), BAD);
        CHECK.due("new " + wanted + ": live(" + count + ")", log.live(count), BAD);
        for (int s = 0; s < count - 1; s++) {
            fillSegment(log, 4 * (s % 4));
        }
        CHECK.due("new " + wanted + ": all but one full", three(log, 0), ROOM);
    }

    private static void thatManySegments() {
        segments(4, 4);
        segments(5, 5);
        segments(6, 6);
        segments(7, 7);
        segments(8, 8);
    }

    private static void fourIfFewer() {
        segments(3, 4);
        segments(1, 4);
        segments(0, 4);
        segments(-1, 4);
        segments(Integer.MIN_VALUE, 4);
    }

    private static void eightIfMore() {
        segments(9, 8);
        segments(100, 8);
        segments(Integer.MAX_VALUE, 8);
    }

    private static void allBlocksAbsent() {
        UnitLog log = new UnitLog(4);
        for (int block = 0; block < 16; block++) {
            absent(log, "new", block);
        }
    }

    private static void segmentZeroOpen() {
        states(new UnitLog(4), "new", OPEN, FREE, FREE, FREE);
        states(new UnitLog(8), "new", OPEN, FREE, FREE, FREE, FREE, FREE, FREE, FREE);
        UnitLog log = new UnitLog(4);
        three(log, 0);
        CHECK.due("the first record", log.place(0), 0);
    }

    private static void nothingWritten() {
        UnitLog log = new UnitLog(4);
        looks(log, "new", 0, 0, 0, 0, 0);
        log.crash();
        CHECK.due("checkpoint 0 can be looked at", log.recover(), 0);
        looks(log, "recovered", 0, 0, 0, 1, 20);
        states(log, "recovered", OPEN, FREE, FREE, FREE);
        absent(log, "recovered", 0, 15);
    }

    private static void notArmedNotDown() {
        UnitLog log = new UnitLog(4);
        CHECK.due("armed", log.look(5), -1);
        CHECK.due("down", log.look(6), 0);
        CHECK.due("disarm", log.disarm(), false);
        CHECK.due("recover", log.recover(), BAD);
        CHECK.due("checkpoint", log.checkpoint(), 1);
    }

    // Promise 2

    private static void bytesOfHigh() {
        UnitLog log = new UnitLog(4);
        six(log, 0);
        for (int k = 0; k < 8; k++) {
            CHECK.due("byte " + k, log.packed(0, k), k);
        }
        log.write(0, Long.MIN_VALUE, 0);
        CHECK.due("the highest byte", log.packed(0, 1), 128);
        CHECK.due("high", log.read(0, 0), Long.MIN_VALUE);
        log.write(0, -1, 0);
        CHECK.due("all bytes 255", log.packed(0, 1), 255);
    }

    private static void bytesOfLow() {
        UnitLog log = new UnitLog(4);
        six(log, 0);
        for (int k = 8; k < 16; k++) {
            CHECK.due("byte " + k, log.packed(0, k), k);
        }
        log.write(0, 0, Long.MAX_VALUE);
        CHECK.due("low", log.read(0, 1), Long.MAX_VALUE);
        log.write(0, 0, -2);
        CHECK.due("low", log.read(0, 1), -2);
    }

    private static void writeTakesUnits() {
        UnitLog log = new UnitLog(4);
        CHECK.due("three", three(log, 0), 3);
        CHECK.due("four", four(log, 1), 4);
        CHECK.due("five", five(log, 2), 5);
        CHECK.due("FILL", log.look(0), 12);
        CHECK.due("six, in the next segment", six(log, 3), 6);
        CHECK.due("the same again", six(log, 3), 6);
        looks(log, "appended", 12, 0, 5, 0, 12);
    }

    private static void writeWhileDown() {
        UnitLog log = down();
        CHECK.due("a block", six(log, 0), DOWN);
        CHECK.due("no block", six(log, 16), DOWN);
        CHECK.due("no block", six(log, -1), DOWN);
        CHECK.due("written", log.look(4), 9);
        CHECK.due("as on the disk", log.recover(), 2);
        log = oneFree();
        log.crash();
        CHECK.due("where there was no room", six(log, 0), DOWN);
    }

    private static void writeBadBlock() {
        UnitLog log = new UnitLog(4);
        six(log, 0);
        String before = all(log);
        for (int block : NO_BLOCKS) {
            CHECK.due("write(" + block + ")", three(log, block), BAD);
        }
        CHECK.due("nothing was done", all(log), before);
        CHECK.due("write(0)", three(log, 0), 3);
        CHECK.due("write(15)", three(log, 15), 3);
        log = noneFree();
        six(log, 12);
        six(log, 13);
        CHECK.due("no room", three(log, 0), ROOM);
        CHECK.due("BAD before ROOM", three(log, 16), BAD);
        CHECK.due("BAD before ROOM", three(log, -1), BAD);
    }

    private static void writeNeedsMore() {
        UnitLog log = oneFree();
        six(log, 9);
        CHECK.due("FILL", log.look(0), 9);
        CHECK.due("7 are left: 4", four(log, 10), 4);
        CHECK.due("3 are left: 4", four(log, 11), ROOM);
        CHECK.due("3 are left: 6", six(log, 11), ROOM);
        CHECK.due("3 are left: 3", three(log, 11), 3);
        CHECK.due("FILL", log.look(0), 16);
        CHECK.due("0 are left: 3", three(log, 12), ROOM);
        CHECK.due("there", log.place(11), 45);
    }

    private static void writeWithOneFree() {
        UnitLog log = new UnitLog(4);
        fillSegment(log, 0);
        CHECK.due("three are free", three(log, 4), 3);
        six(log, 5);
        four(log, 6);
        CHECK.due("two are free", four(log, 7), 4);
        CHECK.due("the third segment", log.place(7), 32);
        six(log, 8);
        CHECK.due("one is free, and there is room", five(log, 9), 5);
        states(log, "one is free", CLOSED, CLOSED, OPEN, FREE);
        CHECK.due("one is free", three(log, 10), ROOM);
        CHECK.due("a block that is there", three(log, 0), ROOM);
    }

    private static void writeWithNoneFree() {
        UnitLog log = noneFree();
        CHECK.due("there is room", six(log, 12), 6);
        CHECK.due("just enough", six(log, 13), 6);
        CHECK.due("FILL", log.look(0), 16);
        CHECK.due("none is free", three(log, 0), ROOM);
        CHECK.due("none is free", six(log, 14), ROOM);
    }

    private static void writeRefusedDoesNothing() {
        UnitLog log = oneFree();
        six(log, 9);
        six(log, 9);
        log.arm(0);
        String before = all(log);
        CHECK.due("no room, and a disk that would fail", four(log, 0), ROOM);
        CHECK.due("nothing was done", all(log), before);
        CHECK.due("not saved either", log.look(4), 32);
    }

    private static void writeGoesDown() {
        for (int n = 0; n <= 16; n++) {
            UnitLog log = new UnitLog(4);
            fillSegment(log, 0);
            log.arm(n);
            CHECK.due("armed with " + n, six(log, 4), n < 16 ? DOWN : 6);
            CHECK.due("armed with " + n + ": down", log.look(6), n < 16 ? 1 : 0);
            CHECK.due("armed with " + n + ": written", log.look(4), n);
            log.crash();
            CHECK.due("armed with " + n + ": whole", log.recover(), n / 4);
            absent(log, "armed with " + n, 4);
            states(log, "armed with " + n, OPEN, FREE, FREE, FREE);
            CHECK.due("armed with " + n + ": FILL", log.look(0), n / 4 * 4);
        }
    }

    // Promise 3

    private static void trimAppends() {
        UnitLog log = new UnitLog(4);
        six(log, 0);
        three(log, 15);
        CHECK.due("trim(15)", log.trim(15), 2);
        CHECK.due("trim(0)", log.trim(0), 2);
        looks(log, "two TRIM records", 13, 0, 4, 0, 0);
        absent(log, "trimmed", 0, 15);
        CHECK.due("no live units", log.live(0), 0);
        CHECK.due("written again, behind the TRIM records", three(log, 15), 3);
        CHECK.due("place", log.place(15), 13);
        CHECK.due("in the next segment", log.trim(15), 2);
        looks(log, "in the next segment", 2, 0, 6, 0, 16);
        log.flush();
        log.crash();
        CHECK.due("on the disk", log.recover(), 6);
        absent(log, "trimmed", 0, 15);
    }

    private static void trimWhileDown() {
        UnitLog log = down();
        CHECK.due("a block", log.trim(0), DOWN);
        CHECK.due("an absent one", log.trim(5), DOWN);
        CHECK.due("no block", log.trim(16), DOWN);
        CHECK.due("as on the disk", log.recover(), 2);
        CHECK.due("there", log.place(0), 0);
    }

    private static void trimBadBlock() {
        UnitLog log = oneFree();
        String before = all(log);
        for (int block : NO_BLOCKS) {
            CHECK.due("trim(" + block + ")", log.trim(block), BAD);
        }
        CHECK.due("nothing was done", all(log), before);
        log = noneFree();
        six(log, 12);
        six(log, 13);
        CHECK.due("BAD before ROOM", log.trim(16), BAD);
    }

    private static void trimAbsent() {
        UnitLog log = new UnitLog(4);
        CHECK.due("never written", log.trim(0), NONE);
        three(log, 0);
        CHECK.due("its neighbour", log.trim(1), NONE);
        CHECK.due("there", log.trim(0), 2);
        CHECK.due("trimmed", log.trim(0), NONE);
        looks(log, "one TRIM record", 5, 0, 2, 0, 0);
        log = noneFree();
        six(log, 12);
        six(log, 13);
        CHECK.due("NONE before ROOM", log.trim(14), NONE);
        CHECK.due("ROOM", log.trim(13), ROOM);
    }

    private static void trimWithoutRoom() {
        UnitLog log = oneFree();
        six(log, 9);
        five(log, 10);
        CHECK.due("FILL 14: just enough", log.trim(10), 2);
        CHECK.due("FILL 16", log.trim(9), ROOM);
        CHECK.due("as before", log.place(9), 35);

        log = oneFree();
        six(log, 9);
        six(log, 9);
        log.arm(0);
        String before = all(log);
        CHECK.due("FILL 15", log.trim(9), ROOM);
        CHECK.due("nothing was done", all(log), before);

        log = new UnitLog(4);
        fillSegment(log, 0);
        CHECK.due("three are free", log.trim(0), 2);
        four(log, 4);
        four(log, 5);
        six(log, 6);
        CHECK.due("two are free", log.trim(4), 2);
        CHECK.due("the third segment", log.look(0), 2);

        log = noneFree();
        six(log, 12);
        four(log, 13);
        CHECK.due("none is free, FILL 14", log.trim(12), 2);
        CHECK.due("none is free, FILL 16", log.trim(13), ROOM);
    }

    private static void trimGoesDown() {
        for (int n = 0; n <= 16; n++) {
            UnitLog log = new UnitLog(4);
            fillSegment(log, 0);
            log.arm(n);
            CHECK.due("armed with " + n, log.trim(0), n < 16 ? DOWN : 2);
            CHECK.due("armed with " + n + ": down", log.look(6), n < 16 ? 1 : 0);
            CHECK.due("armed with " + n + ": written", log.look(4), n);
            log.crash();
            CHECK.due("armed with " + n + ": whole", log.recover(), n / 4);
            CHECK.due("armed with " + n + ": not trimmed", log.place(0), n < 4 ? NONE : 0);
        }
    }

    // Promises 4, 5, 6

    private static void readHalves() {
        UnitLog log = new UnitLog(4);
        log.write(4, 0x8000000000000001L, -2L);
        CHECK.due("half 0", log.read(4, 0), 0x8000000000000001L);
        CHECK.due("half 1", log.read(4, 1), -2L);
        log.write(4, -1, Long.MAX_VALUE);
        CHECK.due("half 0", log.read(4, 0), -1);
        CHECK.due("half 1", log.read(4, 1), Long.MAX_VALUE);
        log.flush();
        log.crash();
        log.recover();
        CHECK.due("half 0, from the disk", log.read(4, 0), -1);
        CHECK.due("half 1, from the disk", log.read(4, 1), Long.MAX_VALUE);
    }

    private static void readAbsent() {
        UnitLog log = new UnitLog(4);
        CHECK.due("never written", log.read(0, 0), 0);
        log.write(0, -1, -1);
        CHECK.due("its neighbour", log.read(1, 0), 0);
        log.trim(0);
        CHECK.due("trimmed", log.read(0, 0), 0);
        CHECK.due("trimmed", log.read(0, 1), 0);
    }

    private static void readWhileDown() {
        UnitLog log = down();
        CHECK.due("half 0", log.read(0, 0), 0);
        CHECK.due("half 1", log.read(0, 1), 0);
        log.recover();
        CHECK.due("up again", log.read(0, 1), PLAIN_LOW);
    }

    private static void readBadBlock() {
        UnitLog log = new UnitLog(8);
        for (int block = 0; block < 16; block++) {
            log.write(block, -1, -1);
        }
        for (int block : NO_BLOCKS) {
            CHECK.due("read(" + block + ", 0)", log.read(block, 0), 0);
            CHECK.due("read(" + block + ", 1)", log.read(block, 1), 0);
            CHECK.due("read(" + block + ", 2)", log.read(block, 2), 0);
        }
        CHECK.due("read(15, 1)", log.read(15, 1), -1);
    }

    private static void readBadHalf() {
        UnitLog log = new UnitLog(4);
        log.write(0, -1, -1);
        int[] halves = {-1, 2, -2, 3, Integer.MIN_VALUE, Integer.MAX_VALUE};
        for (int half : halves) {
            CHECK.due("read(0, " + half + ")", log.read(0, half), 0);
        }
    }

    private static void packedBytes() {
        UnitLog log = new UnitLog(4);
        log.write(2, -1, -1);
        CHECK.due("the first", log.packed(2, 0), 29);
        CHECK.due("255", log.packed(2, 1), 255);
        CHECK.due("the last", log.packed(2, 2), 1);
        six(log, 3);
        CHECK.due("the first, 0", log.packed(3, 0), 0);
        CHECK.due("the last of 16", log.packed(3, 15), 15);
        CHECK.due("the other one's still", log.packed(2, 1), 255);
        log.write(2, PLAIN_LOW, PLAIN_HIGH);
        CHECK.due("written over", log.packed(2, 0), 8);
        log.flush();
        log.crash();
        log.recover();
        CHECK.due("from the disk", log.packed(2, 15), 7);
    }

    private static void packedHowMany() {
        UnitLog log = new UnitLog(4);
        three(log, 0);
        CHECK.due("3", log.packed(0, -1), 3);
        four(log, 0);
        CHECK.due("6", log.packed(0, -1), 6);
        five(log, 0);
        CHECK.due("10", log.packed(0, -1), 10);
        six(log, 0);
        CHECK.due("16", log.packed(0, -1), 16);
    }

    private static void packedWhileDown() {
        UnitLog log = down();
        CHECK.due("a block", log.packed(0, 0), DOWN);
        CHECK.due("how many", log.packed(0, -1), DOWN);
        CHECK.due("no such byte", log.packed(0, 16), DOWN);
        CHECK.due("absent", log.packed(5, 0), DOWN);
        CHECK.due("no block", log.packed(16, 0), DOWN);
    }

    private static void packedBadBlock() {
        UnitLog log = new UnitLog(4);
        six(log, 0);
        six(log, 15);
        for (int block : NO_BLOCKS) {
            CHECK.due("packed(" + block + ", 0)", log.packed(block, 0), BAD);
            CHECK.due("packed(" + block + ", -1)", log.packed(block, -1), BAD);
        }
    }

    private static void packedNoSuchByte() {
        UnitLog log = new UnitLog(4);
        six(log, 1);
        three(log, 2);
        int[] none = {-2, -3, 16, 17, 18, 255, Integer.MIN_VALUE, Integer.MAX_VALUE};
        for (int k : none) {
            CHECK.due("packed(1, " + k + ")", log.packed(1, k), BAD);
            CHECK.due("packed(2, " + k + ")", log.packed(2, k), BAD);
        }
        CHECK.due("the last of 16", log.packed(1, 15), 15);
        for (int k = 3; k < 16; k++) {
            CHECK.due("packed(2, " + k + ")", log.packed(2, k), BAD);
        }
    }

    private static void packedAbsent() {
        UnitLog log = new UnitLog(4);
        int[] all = {-1, 0, 15, 16, -2, Integer.MIN_VALUE, Integer.MAX_VALUE};
        for (int k : all) {
            CHECK.due("never written: packed(2, " + k + ")", log.packed(2, k), NONE);
        }
        six(log, 2);
        log.trim(2);
        for (int k : all) {
            CHECK.due("trimmed: packed(2, " + k + ")", log.packed(2, k), NONE);
        }
    }

    private static void placeOfLatest() {
        UnitLog log = new UnitLog(8);
        three(log, 0);
        CHECK.due("0, the lowest", log.place(0), 0);
        four(log, 1);
        CHECK.due("unit 3", log.place(1), 3);
        six(log, 0);
        CHECK.due("the latest, unit 7", log.place(0), 7);
        log.trim(1);
        CHECK.due("as before", log.place(0), 7);
        four(log, 1);
        CHECK.due("segment 1", log.place(1), 16);

        log = new UnitLog(8);
        for (int block = 0; block < 14; block++) {
            six(log, block);
        }
        CHECK.due("segment 6, unit 6", log.place(13), 102);
        CHECK.due("two records go to segment 7", log.clean(), 2);
        CHECK.due("segment 7", log.place(0), 112);
        CHECK.due("segment 7, unit 6", log.place(1), 118);
        four(log, 14);
        CHECK.due("segment 7, unit 12", log.place(14), 124);
    }

    private static void placeWhileDown() {
        UnitLog log = down();
        CHECK.due("a block", log.place(0), DOWN);
        CHECK.due("absent", log.place(5), DOWN);
        CHECK.due("no block", log.place(16), DOWN);
    }

    private static void placeBadBlock() {
        UnitLog log = new UnitLog(4);
        six(log, 0);
        six(log, 15);
        for (int block : NO_BLOCKS) {
            CHECK.due("place(" + block + ")", log.place(block), BAD);
        }
        CHECK.due("place(15)", log.place(15), 6);
    }

    private static void placeAbsent() {
        UnitLog log = new UnitLog(4);
        CHECK.due("never written", log.place(0), NONE);
        three(log, 0);
        log.trim(0);
        CHECK.due("trimmed", log.place(0), NONE);
    }

    // Promises 7, 8

    private static void flushSaves() {
        UnitLog log = new UnitLog(4);
        CHECK.due("nothing yet", log.flush(), 0);
        six(log, 0);
        CHECK.due("six", log.flush(), 6);
        CHECK.due("none", log.flush(), 0);
        three(log, 0);
        log.trim(0);
        CHECK.due("those behind SAVED", log.flush(), 5);
        looks(log, "saved", 11, 11, 3, 0, 11);
        six(log, 0);
        CHECK.due("of the next segment", log.flush(), 6);
        log = new UnitLog(4);
        fillSegment(log, 0);
        CHECK.due("a whole segment", log.flush(), 16);
        CHECK.due("none", log.flush(), 0);
    }

    private static void flushWhileDown() {
        UnitLog log = down();
        CHECK.due("flush", log.flush(), DOWN);
        CHECK.due("written", log.look(4), 9);
    }

    private static void flushGoesDown() {
        for (int n = 0; n <= 16; n++) {
            UnitLog log = new UnitLog(4);
            fillSegment(log, 0);
            log.arm(n);
            CHECK.due("armed with " + n, log.flush(), n < 16 ? DOWN : 16);
            CHECK.due("armed with " + n + ": down", log.look(6), n < 16 ? 1 : 0);
            CHECK.due("armed with " + n + ": written", log.look(4), n);
            CHECK.due("armed with " + n + ": armed", log.look(5), 0);
            log.crash();
            CHECK.due("armed with " + n + ": whole", log.recover(), n / 4);
        }
        UnitLog log = new UnitLog(4);
        log.arm(0);
        CHECK.due("nothing to save", log.flush(), 0);
        CHECK.due("not down", log.look(6), 0);
    }

    private static void checkpointNumber() {
        UnitLog log = new UnitLog(4);
        CHECK.due("the first", log.checkpoint(), 1);
        six(log, 0);
        CHECK.due("the second", log.checkpoint(), 2);
        looks(log, "saved too", 6, 6, 1, 2, 46);
        CHECK.due("the third, nothing to save", log.checkpoint(), 3);
        looks(log, "20 units more", 6, 6, 1, 3, 66);
        log.crash();
        log.recover();
        CHECK.due("behind recover's", log.checkpoint(), 5);
    }

    private static void checkpointWhileDown() {
        UnitLog log = down();
        CHECK.due("checkpoint", log.checkpoint(), DOWN);
        CHECK.due("written", log.look(4), 9);
        log.recover();
        CHECK.due("the next number", log.checkpoint(), 2);
    }

    private static void checkpointGoesDown() {
        for (int n = 0; n <= 26; n++) {
            UnitLog log = new UnitLog(4);
            log.checkpoint();
            six(log, 0);
            log.arm(n);
            CHECK.due("armed with " + n, log.checkpoint(), n < 26 ? DOWN : 2);
            CHECK.due("armed with " + n + ": down", log.look(6), n < 26 ? 1 : 0);
            CHECK.due("armed with " + n + ": written", log.look(4), 20 + n);
            log.crash();
            CHECK.due("armed with " + n + ": rolled", log.recover(), n < 6 || n == 26 ? 0 : 1);
            CHECK.due("armed with " + n + ": number", log.look(3), n < 26 ? 2 : 3);
        }
    }

    // Promises 10, 11, 12

    private static void armWithN() {
        UnitLog log = new UnitLog(4);
        CHECK.due("arm(10000)", log.arm(10000), true);
        CHECK.due("armed", log.look(5), 10000);
        CHECK.due("arm(30)", log.arm(30), true);
        CHECK.due("armed anew", log.look(5), 30);
        CHECK.due("arm(0)", log.arm(0), true);
        CHECK.due("armed with 0", log.look(5), 0);
        CHECK.due("not down for that", log.look(6), 0);
        CHECK.due("the next unit", log.checkpoint(), DOWN);

        log = new UnitLog(4);
        log.arm(10000);
        for (int n = 1; n <= 500; n++) {
            CHECK.due("checkpoint " + n, log.checkpoint(), n);
        }
        CHECK.due("used up", log.look(5), 0);
        CHECK.due("unit 10001", log.checkpoint(), DOWN);
    }

    private static void armWhileDown() {
        UnitLog log = down();
        CHECK.due("arm(0)", log.arm(0), false);
        CHECK.due("arm(5)", log.arm(5), false);
        CHECK.due("arm(10001)", log.arm(10001), false);
        CHECK.due("not armed", log.look(5), -1);
    }

    private static void armBadNumber() {
        UnitLog log = new UnitLog(4);
        int[] numbers = {-1, 10001, -2, 10002, 65536, Integer.MIN_VALUE, Integer.MAX_VALUE};
        for (int n : numbers) {
            CHECK.due("arm(" + n + ")", log.arm(n), false);
            CHECK.due("not armed", log.look(5), -1);
        }
        log.arm(7);
        for (int n : numbers) {
            CHECK.due("arm(" + n + ")", log.arm(n), false);
            CHECK.due("armed as before", log.look(5), 7);
        }
    }

    private static void disarmed() {
        UnitLog log = new UnitLog(4);
        log.arm(5);
        CHECK.due("disarm", log.disarm(), true);
        CHECK.due("not armed", log.look(5), -1);
        CHECK.due("20 units", log.checkpoint(), 1);
        log.arm(0);
        CHECK.due("armed with 0 is armed", log.disarm(), true);
        CHECK.due("20 units more", log.checkpoint(), 2);
        log.arm(20);
        log.checkpoint();
        CHECK.due("used up is armed", log.disarm(), true);
        CHECK.due("20 units more", log.checkpoint(), 4);
    }

    private static void disarmWhileDown() {
        UnitLog log = new UnitLog(4);
        log.arm(7);
        log.crash();
        CHECK.due("disarm", log.disarm(), false);
        CHECK.due("armed as before", log.look(5), 7);
        log = new UnitLog(4);
        log.arm(0);
        log.checkpoint();
        CHECK.due("disarm", log.disarm(), false);
        CHECK.due("armed as before", log.look(5), 0);
    }

    private static void disarmNotArmed() {
        UnitLog log = new UnitLog(4);
        CHECK.due("never armed", log.disarm(), false);
        log.arm(3);
        log.disarm();
        CHECK.due("disarmed", log.disarm(), false);
        log.arm(-1);
        CHECK.due("refused", log.disarm(), false);
        log.arm(3);
        log.crash();
        log.recover();
        CHECK.due("recovered", log.disarm(), false);
        CHECK.due("not armed", log.look(5), -1);
    }

    private static void crashGoesDown() {
        UnitLog log = new UnitLog(4);
        six(log, 0);
        log.flush();
        three(log, 1);
        log.arm(9);
        CHECK.due("crash", log.crash(), true);
        CHECK.due("down", log.look(6), 1);
        CHECK.due("no unit is written", log.look(4), 6);
        CHECK.due("armed as before", log.look(5), 9);
        CHECK.due("flush", log.flush(), DOWN);
        CHECK.due("what is on the disk", log.recover(), 1);
        absent(log, "lost", 1);
        CHECK.due("crash of a new one", new UnitLog(4).crash(), true);
    }

    private static void crashWhileDown() {
        UnitLog log = down();
        CHECK.due("after a crash", log.crash(), false);
        log.recover();
        CHECK.due("recovered", log.crash(), true);
        log.recover();
        log.arm(0);
        log.checkpoint();
        CHECK.due("after the disk failed", log.crash(), false);
        CHECK.due("armed as before", log.look(5), 0);
    }

    // Promise 13

    private static void recoverDisarms() {
        UnitLog log = new UnitLog(4);
        log.arm(0);
        CHECK.due("down", log.checkpoint(), DOWN);
        CHECK.due("its own checkpoint is written", log.recover(), 0);
        CHECK.due("not armed", log.look(5), -1);
        CHECK.due("not down", log.look(6), 0);
        CHECK.due("20 units", log.look(4), 20);
        log.arm(19);
        log.crash();
        CHECK.due("its own checkpoint is written", log.recover(), 0);
        CHECK.due("not armed", log.look(5), -1);
        CHECK.due("the second", log.look(3), 2);
    }

    private static void recoverCounts() {
        UnitLog log = new UnitLog(4);
        log.crash();
        CHECK.due("nothing was appended", log.recover(), 0);
        three(log, 0);
        log.crash();
        CHECK.due("nothing was saved", log.recover(), 0);
        three(log, 0);
        log.trim(0);
        log.flush();
        log.crash();
        CHECK.due("a STORE record and a TRIM record", log.recover(), 2);
        log.crash();
        CHECK.due("all are in its checkpoint", log.recover(), 0);
        six(log, 0);
        three(log, 1);
        three(log, 2);
        three(log, 3);
        log.arm(5);
        CHECK.due("one unit of the second segment is lacking", log.flush(), DOWN);
        CHECK.due("two of the closed segment, one of the open one", log.recover(), 3);
    }

    private static void recoverNotDown() {
        UnitLog log = new UnitLog(4);
        three(log, 0);
        log.arm(3);
        String before = all(log);
        CHECK.due("not down", log.recover(), BAD);
        CHECK.due("nothing was done", all(log), before);
        log.crash();
        CHECK.due("down", log.recover(), 0);
        CHECK.due("not down any more", log.recover(), BAD);
        CHECK.due("one checkpoint", log.look(3), 1);
    }

    // Promises 14, 15

    private static void liveUnits() {
        UnitLog log = new UnitLog(4);
        lives(log, "new", 0, 0, 0, 0);
        fillSegment(log, 0);
        CHECK.due("all 16", log.live(0), 16);
        three(log, 0);
        lives(log, "one written over", 12, 3, 0, 0);
        log.trim(1);
        log.trim(2);
        lives(log, "two trimmed", 4, 3, 0, 0);
        CHECK.due("cleaned", log.clean(), 1);
        lives(log, "cleaned", 0, 7, 0, 0);
        CHECK.due("the highest of eight", new UnitLog(8).live(7), 0);
    }

    private static void liveWhileDown() {
        UnitLog log = down();
        CHECK.due("a segment", log.live(0), DOWN);
        CHECK.due("none", log.live(4), DOWN);
        CHECK.due("none", log.live(-1), DOWN);
    }

    private static void liveNoSuchSegment() {
        UnitLog log = new UnitLog(4);
        for (int s : NO_SEGMENTS) {
            CHECK.due("live(" + s + ")", log.live(s), BAD);
        }
        for (int count = 4; count <= 8; count++) {
            log = new UnitLog(count);
            CHECK.due("the last of " + count, log.live(count - 1), 0);
            CHECK.due("behind the last of " + count, log.live(count), BAD);
        }
    }

    private static void segmentStates() {
        UnitLog log = new UnitLog(4);
        states(log, "new", OPEN, FREE, FREE, FREE);
        fillSegment(log, 0);
        states(log, "full, and still open", OPEN, FREE, FREE, FREE);
        fillSegment(log, 0);
        states(log, "closed without live units", CLOSED, OPEN, FREE, FREE);
        log.clean();
        states(log, "cleaned", FREE, OPEN, FREE, FREE);
        three(log, 0);
        states(log, "open again", OPEN, CLOSED, FREE, FREE);
    }

    private static void segmentWhileDown() {
        UnitLog log = down();
        CHECK.due("a segment", log.segment(0), DOWN);
        CHECK.due("none", log.segment(4), DOWN);
        CHECK.due("none", log.segment(-1), DOWN);
    }

    private static void segmentNoSuchSegment() {
        UnitLog log = new UnitLog(4);
        for (int s : NO_SEGMENTS) {
            CHECK.due("segment(" + s + ")", log.segment(s), BAD);
        }
        for (int count = 4; count <= 8; count++) {
            log = new UnitLog(count);
            CHECK.due("the last of " + count, log.segment(count - 1), FREE);
            CHECK.due("behind the last of " + count, log.segment(count), BAD);
        }
    }

    // Promise 16

    private static void lookFill() {
        UnitLog log = new UnitLog(4);
        CHECK.due("empty", log.look(0), 0);
        three(log, 0);
        log.trim(0);
        CHECK.due("5", log.look(0), 5);
        five(log, 0);
        six(log, 0);
        CHECK.due("full", log.look(0), 16);
        log.checkpoint();
        CHECK.due("full still", log.look(0), 16);
        three(log, 0);
        CHECK.due("the next segment", log.look(0), 3);
    }

    private static void lookSaved() {
        UnitLog log = new UnitLog(4);
        CHECK.due("empty", log.look(1), 0);
        three(log, 0);
        CHECK.due("not saved", log.look(1), 0);
        log.flush();
        CHECK.due("by flush", log.look(1), 3);
        three(log, 0);
        CHECK.due("those before", log.look(1), 3);
        log.checkpoint();
        CHECK.due("by checkpoint", log.look(1), 6);
        five(log, 0);
        five(log, 0);
        CHECK.due("by flush", log.flush(), 10);
        CHECK.due("all of the segment", log.look(1), 16);
        three(log, 0);
        CHECK.due("the next segment", log.look(1), 0);
    }

    private static void lookSerial() {
        UnitLog log = new UnitLog(4);
        CHECK.due("none yet", log.look(2), 0);
        log.trim(0);
        log.flush();
        log.checkpoint();
        CHECK.due("none yet", log.look(2), 0);
        three(log, 0);
        CHECK.due("not saved yet", log.look(2), 1);
        log.crash();
        log.recover();
        CHECK.due("lost", log.look(2), 0);
        three(log, 0);
        log.trim(0);
        log.checkpoint();
        log.crash();
        log.recover();
        CHECK.due("not lost", log.look(2), 2);
    }

    private static void lookCheckpoint() {
        UnitLog log = new UnitLog(4);
        CHECK.due("checkpoint 0", log.look(3), 0);
        log.checkpoint();
        CHECK.due("the first", log.look(3), 1);
        log.arm(19);
        log.checkpoint();
        log.recover();
        CHECK.due("the second is recover's", log.look(3), 2);
        fillSegment(log, 0);
        three(log, 0);
        CHECK.due("clean", log.clean(), 3);
        CHECK.due("clean makes two", log.look(3), 4);
    }

    private static void lookWhileDown() {
        UnitLog log = new UnitLog(4);
        three(log, 0);
        log.flush();
        log.crash();
        for (int what = 0; what < 4; what++) {
            CHECK.due("look(" + what + ") after a crash", log.look(what), DOWN);
        }
        CHECK.due("look(4)", log.look(4), 3);
        CHECK.due("look(5)", log.look(5), -1);
        CHECK.due("look(6)", log.look(6), 1);
        log.recover();
        looks(log, "up again", 3, 3, 1, 1, 23);
        log.arm(4);
        log.checkpoint();
        for (int what = 0; what < 4; what++) {
            CHECK.due("look(" + what + ") after the disk failed", log.look(what), DOWN);
        }
        CHECK.due("look(4)", log.look(4), 27);
        CHECK.due("look(5)", log.look(5), 0);
        CHECK.due("look(6)", log.look(6), 1);
    }

    private static void lookWritten() {
        UnitLog log = new UnitLog(4);
        CHECK.due("checkpoint 0 not", log.look(4), 0);
        three(log, 0);
        CHECK.due("not saved", log.look(4), 0);
        log.flush();
        CHECK.due("saved", log.look(4), 3);
        log.checkpoint();
        CHECK.due("a checkpoint", log.look(4), 23);
        log.arm(7);
        log.checkpoint();
        CHECK.due("one that does not count", log.look(4), 30);
        log.recover();
        CHECK.due("recover's", log.look(4), 50);
        six(log, 1);
        six(log, 2);
        fillSegment(log, 0);
        CHECK.due("what was to be saved when the segment was closed", log.look(4), 62);
    }

    private static void lookArmed() {
        UnitLog log = new UnitLog(4);
        CHECK.due("never", log.look(5), -1);
        log.arm(21);
        CHECK.due("21", log.look(5), 21);
        log.checkpoint();
        CHECK.due("20 fewer", log.look(5), 1);
        three(log, 0);
        log.flush();
        CHECK.due("used up", log.look(5), 0);
        log.recover();
        CHECK.due("recovered", log.look(5), -1);
        log.arm(0);
        CHECK.due("0", log.look(5), 0);
        log.disarm();
        CHECK.due("disarmed", log.look(5), -1);
    }

    private static void lookDown() {
        UnitLog log = new UnitLog(4);
        CHECK.due("new", log.look(6), 0);
        log.crash();
        CHECK.due("crashed", log.look(6), 1);
        log.recover();
        CHECK.due("recovered", log.look(6), 0);
        log.arm(19);
        CHECK.due("armed", log.look(6), 0);
        log.checkpoint();
        CHECK.due("failed", log.look(6), 1);
    }

    private static void lookAnother() {
        UnitLog log = new UnitLog(4);
        int[] others = {-1, 7, -2, 8, 16, Integer.MIN_VALUE, Integer.MAX_VALUE};
        for (int what : others) {
            CHECK.due("look(" + what + ")", log.look(what), BAD);
        }
        log.crash();
        for (int what : others) {
            CHECK.due("down: look(" + what + ")", log.look(what), BAD);
        }
    }
}
