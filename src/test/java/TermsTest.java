/** The document's terms but PACKING: each sentence that names an edge has a test of its own. */
public final class TermsTest extends LogSteps {
    public static void main(String[] args) {
        sentence("An object is used for at most 512 calls after it has been made", TermsTest::usedFor512Calls);
        sentence("BLOCKS are 0 .. 15", TermsTest::blocks);
        sentence("each is absent (at first)", TermsTest::absentAtFirst);
        sentence("or has 16 bytes (0 .. 255)", TermsTest::bytes);
        disk();
        records();
        segments();
        checkpoints();
        recovering();
        CHECK.end();
    }

    private static void disk() {
        sentence("SEGMENTS of 16 UNITS each", TermsTest::sixteenUnits);
        sentence("two AREAS of 20 units", TermsTest::twentyUnits);
        sentence("it is one less with each unit that is written", TermsTest::oneLess);
        sentence("when a unit is to be written and the number is 0, the unit isn't written", TermsTest::unitIsNotWritten);
        sentence("when a unit is to be written", TermsTest::noUnitIsToBeWritten);
        sentence("the call ends there with DOWN", TermsTest::endsThere);
        sentence("all that isn't on the disk is lost", TermsTest::lost);
        sentence("While it is DOWN every call but recover and look is refused with DOWN", TermsTest::refusedWithDown);
        sentence("(false where it answers a boolean, 0 where it answers a long)", TermsTest::refusedWithFalseOrZero);
    }

    private static void records() {
        sentence("2 units and one for each 4 bytes, or part of 4, of the stored form", TermsTest::unitsOfStore);
        sentence("a TRIM record of a block 2", TermsTest::unitsOfTrim);
        sentence("They lie in a segment one behind the other from unit 0 on", TermsTest::oneBehindTheOther);
        sentence("They have a SERIAL each: 1, 2, ..", TermsTest::serials);
        sentence("A block is what its latest record says", TermsTest::latestRecord);
    }

    private static void segments() {
        sentence("A segment is FREE, OPEN (one of them) or CLOSED", TermsTest::oneIsOpen);
        sentence("To SAVE is to write the units SAVED .. FILL - 1 of the open segment", TermsTest::savedToFill);
        sentence("in this order", TermsTest::savedInOrder);
        sentence("if it needs more than 16 - FILL units", TermsTest::moreThanIsLeft);
        sentence("the store saves, the open segment is CLOSED", TermsTest::savesAndCloses);
        sentence("the lowest FREE one is OPEN", TermsTest::lowestFree);
        sentence("and FILL and SAVED are 0", TermsTest::fillAndSavedAreZero);
        sentence("(they aren't on the disk before they are saved)", TermsTest::notOnTheDiskBefore);
        sentence("all those of STORE records in it that are the latest records of their blocks", TermsTest::liveUnits);
    }

    private static void checkpoints() {
        sentence("the store saves, then writes 20 units", TermsTest::savesFirst);
        sentence("to the area K % 2", TermsTest::areas);
        sentence("(1, 2, .. ; as if number 0 had been written at first)", TermsTest::numbers);
        sentence("When all are written it counts", TermsTest::countsWhenAllAreWritten);
        sentence("it holds where the latest record of each block lies that isn't absent", TermsTest::holdsPlaces);
        sentence("the serial of the latest record, the open segment, and FILL", TermsTest::holdsTheRest);
    }

    private static void recovering() {
        sentence("the latest checkpoint that counts is looked at", TermsTest::latestCheckpoint);
        sentence("records of greater serials are ROLLED FORWARD", TermsTest::greaterSerials);
        sentence("by serial", TermsTest::bySerial);
        sentence("as long as the next one is wholly on the disk", TermsTest::whollyOnTheDisk);
        sentence("what is behind that doesn't exist any more", TermsTest::whatIsBehind);
        sentence("doesn't exist any more", TermsTest::neverComesBack);
        sentence("The open segment is that of the last record rolled forward", TermsTest::openByRecord);
        sentence("(of the checkpoint, if there is none)", TermsTest::openByCheckpoint);
        sentence("FILL and SAVED are the units up to the end of that record", TermsTest::fillByRecord);
        sentence("(what the checkpoint says)", TermsTest::fillByCheckpoint);
        sentence("the other segments are CLOSED if they have live units, else FREE", TermsTest::closedOrFree);
        sentence("The next serial is one more than the last one's", TermsTest::nextSerial);
        sentence("Then a checkpoint is made", TermsTest::thenACheckpoint);
    }

    private static void usedFor512Calls() {
        UnitLog log = new UnitLog(4);
        for (int n = 1; n <= 512; n++) {
            CHECK.due("call " + n, log.checkpoint(), n);
        }
        log = new UnitLog(4);
        for (int n = 0; n < 102; n++) {
            fillSegment(log, 0);
            CHECK.due("cleaning " + n, log.clean(), n == 0 ? NONE : 0);
        }
        CHECK.due("call 511", log.look(2), 4 * 102);
        CHECK.due("call 512", log.look(4), 16 * 102 + 40 * 101);
    }

    private static void blocks() {
        UnitLog log = new UnitLog(8);
        for (int block = 0; block < 16; block++) {
            CHECK.due("write(" + block + ")", log.write(block, block, block), block == 0 ? 3 : 4);
        }
        for (int block = 0; block < 16; block++) {
            CHECK.due("read(" + block + ", 0)", log.read(block, 0), block);
            CHECK.due("trim(" + block + ")", log.trim(block), 2);
        }
        for (int block : NO_BLOCKS) {
            CHECK.due("write(" + block + ")", log.write(block, 1, 1), BAD);
            CHECK.due("trim(" + block + ")", log.trim(block), BAD);
            CHECK.due("packed(" + block + ")", log.packed(block, -1), BAD);
            CHECK.due("place(" + block + ")", log.place(block), BAD);
            CHECK.due("read(" + block + ")", log.read(block, 0), 0);
        }
    }

    private static void absentAtFirst() {
        UnitLog log = new UnitLog(4);
        for (int block = 0; block < 16; block++) {
            absent(log, "at first", block);
            CHECK.due("trim(" + block + ")", log.trim(block), NONE);
        }
        three(log, 3);
        absent(log, "beside another one", 2, 4);
    }

    private static void bytes() {
        for (int i = 0; i < 16; i++) {
            long one = 255L << (56 - 8 * (i % 8));
            long high = i < 8 ? one : 0;
            long low = i < 8 ? 0 : one;
            UnitLog log = new UnitLog(4);
            log.write(0, high, low);
            log.write(1, ~high, ~low);
            CHECK.due("byte " + i + " is 255: high", log.read(0, 0), high);
            CHECK.due("byte " + i + " is 255: low", log.read(0, 1), low);
            CHECK.due("byte " + i + " is 0: high", log.read(1, 0), ~high);
            CHECK.due("byte " + i + " is 0: low", log.read(1, 1), ~low);
        }
        UnitLog log = new UnitLog(4);
        log.write(0, 0x00ff01fe02fd03fcL, 0x04fb05fa06f9807fL);
        int[] want = {0, 255, 1, 254, 2, 253, 3, 252, 4, 251, 5, 250, 6, 249, 128, 127};
        for (int k = 0; k < 16; k++) {
            CHECK.due("byte " + k, log.packed(0, k), want[k]);
        }
    }

    private static void sixteenUnits() {
        UnitLog log = new UnitLog(4);
        fillSegment(log, 0);
        CHECK.due("FILL", log.look(0), 16);
        CHECK.due("the last record of it", log.place(3), 12);
        CHECK.due("its live units", log.live(0), 16);
        CHECK.due("saved", log.flush(), 16);
        three(log, 4);
        CHECK.due("the next record", log.place(4), 16);
    }

    private static void twentyUnits() {
        UnitLog log = new UnitLog(4);
        log.checkpoint();
        CHECK.due("one area", log.look(4), 20);
        log.checkpoint();
        CHECK.due("the other", log.look(4), 40);
        log.checkpoint();
        CHECK.due("the first again", log.look(4), 60);
    }

    private static void oneLess() {
        UnitLog log = new UnitLog(4);
        log.arm(100);
        six(log, 0);
        CHECK.due("appended", log.look(5), 100);
        log.flush();
        CHECK.due("six saved", log.look(5), 94);
        log.flush();
        CHECK.due("none saved", log.look(5), 94);
        six(log, 1);
        CHECK.due("appended", log.look(5), 94);
        six(log, 2);
        CHECK.due("six saved, the next segment opened", log.look(5), 88);
        log.checkpoint();
        CHECK.due("six saved, 20 of a checkpoint", log.look(5), 62);
        log.clean();
        CHECK.due("two records of six units saved, 40 of checkpoints", log.look(5), 10);
        CHECK.due("written", log.look(4), 90);
    }

    private static void unitIsNotWritten() {
        UnitLog log = new UnitLog(4);
        three(log, 0);
        log.arm(0);
        CHECK.due("the first unit", log.flush(), DOWN);
        CHECK.due("not written", log.look(4), 0);
        CHECK.due("the number stays 0", log.look(5), 0);
        CHECK.due("down", log.look(6), 1);
        log.recover();
        three(log, 0);
        log.arm(2);
        CHECK.due("the last unit", log.flush(), DOWN);
        CHECK.due("not written", log.look(4), 20 + 2);
        CHECK.due("the number is 0", log.look(5), 0);
        CHECK.due("down", log.look(6), 1);
        log.recover();
        three(log, 0);
        log.arm(3);
        CHECK.due("the number becomes 0 with the last unit", log.flush(), 3);
        CHECK.due("written", log.look(4), 42 + 3);
        CHECK.due("the number is 0", log.look(5), 0);
        CHECK.due("not down", log.look(6), 0);
    }

    private static void noUnitIsToBeWritten() {
        UnitLog log = new UnitLog(4);
        log.arm(0);
        CHECK.due("flush of nothing", log.flush(), 0);
        fillSegment(log, 0);
        CHECK.due("appending in the open segment", log.look(6), 0);
        log.arm(16);
        CHECK.due("all saved", log.flush(), 16);
        CHECK.due("the next segment is opened, nothing is to be saved", six(log, 4), 6);
        CHECK.due("in it", log.place(4), 16);
        CHECK.due("trim", log.trim(4), 2);
        CHECK.due("refused", log.write(16, 0, 0), BAD);
        CHECK.due("the number is 0", log.look(5), 0);
        CHECK.due("not down", log.look(6), 0);
    }

    private static void endsThere() {
        UnitLog log = new UnitLog(4);
        six(log, 0);
        log.arm(5);
        CHECK.due("flush", log.flush(), DOWN);
        CHECK.due("flush: written", log.look(4), 5);

        log = new UnitLog(4);
        six(log, 0);
        log.arm(5);
        CHECK.due("checkpoint", log.checkpoint(), DOWN);
        CHECK.due("checkpoint: written", log.look(4), 5);

        log = new UnitLog(4);
        fillSegment(log, 0);
        log.arm(5);
        CHECK.due("write", three(log, 5), DOWN);
        CHECK.due("write: written", log.look(4), 5);
        CHECK.due("write: one is whole", log.recover(), 1);
        states(log, "write: no segment was opened", OPEN, FREE, FREE, FREE);

        log = new UnitLog(4);
        fillSegment(log, 0);
        log.arm(5);
        CHECK.due("trim", log.trim(3), DOWN);
        CHECK.due("trim: written", log.look(4), 5);
        CHECK.due("trim: one is whole", log.recover(), 1);

        log = new UnitLog(4);
        fillSegment(log, 0);
        three(log, 0);
        log.arm(5);
        CHECK.due("clean", log.clean(), DOWN);
        CHECK.due("clean: written", log.look(4), 16 + 5);
        CHECK.due("clean: all are whole", log.recover(), 5);
        states(log, "clean: no segment was made free", CLOSED, OPEN, FREE, FREE);
    }

    private static void lost() {
        UnitLog log = new UnitLog(4);
        three(log, 0);
        log.flush();
        six(log, 0);
        log.trim(0);
        four(log, 1);
        log.arm(5);
        CHECK.due("one unit of the second is lacking", log.flush(), DOWN);
        CHECK.due("one was on the disk", log.recover(), 1);
        CHECK.due("as before", log.place(0), 0);
        CHECK.due("as before", log.read(0, 1), 0);
        absent(log, "lost", 1);
        looks(log, "lost", 3, 3, 1, 1, 3 + 5 + 20);
    }

    private static void refusedWithDown() {
        UnitLog log = oneFree();
        log.crash();
        String before = all(log);
        for (int block = -1; block <= 16; block++) {
            CHECK.due("write(" + block + ")", six(log, block), DOWN);
            CHECK.due("trim(" + block + ")", log.trim(block), DOWN);
            CHECK.due("packed(" + block + ", -1)", log.packed(block, -1), DOWN);
            CHECK.due("packed(" + block + ", 16)", log.packed(block, 16), DOWN);
            CHECK.due("place(" + block + ")", log.place(block), DOWN);
            CHECK.due("live(" + block + ")", log.live(block), DOWN);
            CHECK.due("segment(" + block + ")", log.segment(block), DOWN);
        }
        CHECK.due("flush", log.flush(), DOWN);
        CHECK.due("checkpoint", log.checkpoint(), DOWN);
        CHECK.due("clean", log.clean(), DOWN);
        CHECK.due("nothing was done", all(log), before);
        CHECK.due("two segments were saved", log.recover(), 8);
        looks(log, "recovered", 16, 16, 8, 1, 32 + 20);
    }

    private static void refusedWithFalseOrZero() {
        UnitLog log = new UnitLog(4);
        log.write(0, -1, -1);
        log.flush();
        log.arm(7);
        log.crash();
        CHECK.due("arm(0)", log.arm(0), false);
        CHECK.due("arm(-1)", log.arm(-1), false);
        CHECK.due("disarm", log.disarm(), false);
        CHECK.due("crash", log.crash(), false);
        for (int block = -1; block <= 16; block++) {
            CHECK.due("read(" + block + ", 0)", log.read(block, 0), 0);
            CHECK.due("read(" + block + ", 1)", log.read(block, 1), 0);
        }
        CHECK.due("armed as before", log.look(5), 7);
    }

    /** The first p bytes again and again make a stored form of p + 2 bytes, up to p = 13. */
    private static void unitsOfStore() {
        int[] units = {3, 3, 4, 4, 4, 4, 5, 5, 5, 5, 6, 6, 6, 6, 6, 6};
        for (int p = 1; p <= 16; p++) {
            long high = 0;
            long low = 0;
            for (int i = 0; i < 8; i++) {
                high = high << 8 | (1 + i % p);
                low = low << 8 | (1 + (8 + i) % p);
            }
            UnitLog log = new UnitLog(4);
            CHECK.due(p + " bytes: units", log.write(0, high, low), units[p - 1]);
            CHECK.due(p + " bytes: stored form", log.packed(0, -1), p <= 13 ? p + 2 : 16);
            CHECK.due(p + " bytes: FILL", log.look(0), units[p - 1]);
            CHECK.due(p + " bytes: live", log.live(0), units[p - 1]);
            CHECK.due(p + " bytes: saved", log.flush(), units[p - 1]);
        }
    }

    private static void unitsOfTrim() {
        UnitLog log = new UnitLog(4);
        six(log, 0);
        three(log, 1);
        CHECK.due("of six units", log.trim(0), 2);
        CHECK.due("FILL", log.look(0), 11);
        CHECK.due("of three units", log.trim(1), 2);
        CHECK.due("FILL", log.look(0), 13);
        CHECK.due("on the disk", log.flush(), 13);
    }

    private static void oneBehindTheOther() {
        UnitLog log = new UnitLog(4);
        three(log, 0);
        four(log, 1);
        log.trim(0);
        five(log, 2);
        CHECK.due("unit 0", log.place(1), 3);
        CHECK.due("behind 3, 4 and 2 units", log.place(2), 9);
        three(log, 3);
        CHECK.due("unit 0 of the next segment", log.place(3), 16);
        three(log, 3);
        CHECK.due("behind 3 units", log.place(3), 19);
    }

    private static void serials() {
        UnitLog log = new UnitLog(4);
        CHECK.due("none yet", log.look(2), 0);
        three(log, 0);
        CHECK.due("a STORE record", log.look(2), 1);
        log.trim(0);
        CHECK.due("a TRIM record", log.look(2), 2);
        log.trim(0);
        three(log, 16);
        log.flush();
        log.checkpoint();
        CHECK.due("no record", log.look(2), 2);
        six(log, 0);
        six(log, 0);
        CHECK.due("in the next segment", log.look(2), 4);
        CHECK.due("without live units", log.clean(), 0);
        CHECK.due("the cleaner appended none", log.look(2), 4);

        log = new UnitLog(4);
        fillSegment(log, 0);
        three(log, 4);
        CHECK.due("clean", log.clean(), 4);
        CHECK.due("the cleaner's have serials too", log.look(2), 9);
    }

    private static void latestRecord() {
        UnitLog log = new UnitLog(4);
        six(log, 0);
        three(log, 0);
        CHECK.due("the later bytes", log.read(0, 1), 0);
        CHECK.due("the later form", log.packed(0, -1), 3);
        log.trim(0);
        absent(log, "a TRIM record", 0);
        four(log, 0);
        CHECK.due("bytes again", log.read(0, 1), 0x0102);
        CHECK.due("the latest place", log.place(0), 11);
    }

    private static void oneIsOpen() {
        UnitLog log = new UnitLog(8);
        for (int n = 0; n < 28; n++) {
            int open = 0;
            for (int s = 0; s < 8; s++) {
                open += log.segment(s) == OPEN ? 1 : 0;
            }
            CHECK.due("open after " + n + " records", open, 1);
            four(log, n % 16);
        }
        log.crash();
        log.recover();
        states(log, "recovered", FREE, FREE, CLOSED, CLOSED, CLOSED, OPEN, FREE, FREE);
    }

    private static void savedToFill() {
        UnitLog log = new UnitLog(4);
        CHECK.due("SAVED = FILL = 0", log.flush(), 0);
        three(log, 0);
        CHECK.due("all", log.flush(), 3);
        CHECK.due("SAVED", log.look(1), 3);
        CHECK.due("SAVED = FILL", log.flush(), 0);
        six(log, 0);
        four(log, 1);
        log.trim(0);
        CHECK.due("SAVED .. FILL - 1", log.flush(), 12);
        looks(log, "saved", 15, 15, 4, 0, 15);
        four(log, 2);
        CHECK.due("of the open segment alone", log.flush(), 4);
    }

    private static void savedInOrder() {
        for (int n = 0; n <= 9; n++) {
            UnitLog log = new UnitLog(4);
            three(log, 0);
            log.flush();
            three(log, 1);
            four(log, 2);
            log.trim(1);
            log.arm(n);
            CHECK.due("armed with " + n, log.flush(), n < 9 ? DOWN : 9);
            log.crash();
            CHECK.due("armed with " + n + ": whole", log.recover(), n < 3 ? 1 : n < 7 ? 2 : n < 9 ? 3 : 4);
            CHECK.due("armed with " + n + ": block 1", log.place(1), n < 3 || n == 9 ? NONE : 3);
            CHECK.due("armed with " + n + ": block 2", log.place(2), n < 7 ? NONE : 6);
        }
    }

    private static void moreThanIsLeft() {
        for (int left = 3; left <= 6; left++) {
            UnitLog log = new UnitLog(4);
            fillUpTo(log, 16 - left);
            CHECK.due("just what is left", ofUnits(log, 0, left), left);
            CHECK.due("in the open segment", log.place(0), 16 - left);
            looks(log, "in the open segment", 16, 0, log.look(2), 0, 0);
            states(log, "in the open segment", OPEN, FREE, FREE, FREE);

            log = new UnitLog(4);
            fillUpTo(log, 17 - left);
            CHECK.due("one more than is left", ofUnits(log, 0, left), left);
            CHECK.due("in the next segment", log.place(0), 16);
            states(log, "in the next segment", CLOSED, OPEN, FREE, FREE);
        }
        UnitLog log = new UnitLog(4);
        fillUpTo(log, 14);
        CHECK.due("a TRIM record in what is left", log.trim(15), 2);
        looks(log, "a TRIM record in what is left", 16, 0, log.look(2), 0, 0);
        log = new UnitLog(4);
        fillUpTo(log, 15);
        CHECK.due("a TRIM record needs one more", log.trim(15), 2);
        looks(log, "a TRIM record needs one more", 2, 0, log.look(2), 0, 15);
    }

    /** Records of block 15, up to FILL: from 10 to 15. */
    private static void fillUpTo(UnitLog log, int fill) {
        int[][] records = {{5, 5}, {6, 5}, {6, 6}, {5, 4, 4}, {5, 5, 4}, {5, 5, 5}};
        for (int units : records[fill - 10]) {
            ofUnits(log, 15, units);
        }
        CHECK.due("FILL", log.look(0), fill);
    }

    private static int ofUnits(UnitLog log, int block, int units) {
        switch (units) {
            case 3:
                return three(log, block);
            case 4:
                return four(log, block);
            case 5:
                return five(log, block);
            default:
                return six(log, block);
        }
    }

    private static void savesAndCloses() {
        UnitLog log = new UnitLog(4);
        six(log, 0);
        log.flush();
        six(log, 1);
        six(log, 2);
        CHECK.due("only what was not saved is written", log.look(4), 12);
        states(log, "closed", CLOSED, OPEN, FREE, FREE);
        log.crash();
        CHECK.due("saved, but for the one that opened the next segment", log.recover(), 2);

        log = new UnitLog(4);
        for (int n = 0; n < 3; n++) {
            three(log, 0);
            log.trim(0);
        }
        three(log, 1);
        lives(log, "nothing lives in it", 0, 3, 0, 0);
        states(log, "closed all the same", CLOSED, OPEN, FREE, FREE);
        CHECK.due("the cleaner takes it", log.clean(), 0);
        states(log, "cleaned", FREE, OPEN, FREE, FREE);
    }

    private static void lowestFree() {
        UnitLog log = new UnitLog(5);
        six(log, 0);
        six(log, 0);
        three(log, 0);
        fillSegment(log, 0);
        states(log, "0 has no live units", CLOSED, OPEN, FREE, FREE, FREE);
        CHECK.due("cleaned", log.clean(), 0);
        states(log, "0 is free again", FREE, OPEN, FREE, FREE, FREE);
        four(log, 4);
        CHECK.due("below the open one", log.place(4), 0);
        states(log, "below the open one", OPEN, CLOSED, FREE, FREE, FREE);
        fillSegment(log, 5);
        CHECK.due("above both", log.place(8), 32);
        states(log, "above both", CLOSED, CLOSED, OPEN, FREE, FREE);
    }

    private static void fillAndSavedAreZero() {
        UnitLog log = new UnitLog(4);
        fillSegment(log, 0);
        log.flush();
        looks(log, "full", 16, 16, 4, 0, 16);
        three(log, 4);
        looks(log, "the next segment", 3, 0, 5, 0, 16);
        CHECK.due("its units", log.flush(), 3);
    }

    private static void notOnTheDiskBefore() {
        UnitLog log = new UnitLog(4);
        three(log, 0);
        CHECK.due("written", log.look(4), 0);
        log.crash();
        CHECK.due("nothing", log.recover(), 0);
        absent(log, "lost", 0);
        fillSegment(log, 0);
        three(log, 4);
        log.trim(0);
        log.crash();
        CHECK.due("the closed segment's", log.recover(), 4);
        CHECK.due("not trimmed", log.place(0), 0);
        absent(log, "lost", 4);
    }

    private static void liveUnits() {
        UnitLog log = new UnitLog(4);
        lives(log, "new", 0, 0, 0, 0);
        six(log, 0);
        CHECK.due("all units of it, saved or not", log.live(0), 6);
        three(log, 0);
        CHECK.due("the latest", log.live(0), 3);
        log.trim(0);
        CHECK.due("none of the TRIM record, though it is the latest", log.live(0), 0);
        five(log, 1);
        CHECK.due("full, five live", log.live(0), 5);
        six(log, 0);
        lives(log, "in two segments", 5, 6, 0, 0);
        four(log, 1);
        lives(log, "written over from another segment", 0, 10, 0, 0);
    }

    private static void savesFirst() {
        for (int n = 0; n <= 23; n++) {
            UnitLog log = new UnitLog(4);
            three(log, 0);
            log.arm(n);
            CHECK.due("armed with " + n, log.checkpoint(), n < 23 ? DOWN : 1);
            CHECK.due("armed with " + n + ": written", log.look(4), n);
            log.crash();
            CHECK.due("armed with " + n + ": rolled", log.recover(), n < 3 || n == 23 ? 0 : 1);
            CHECK.due("armed with " + n + ": place", log.place(0), n < 3 ? NONE : 0);
        }
    }

    /** The one before must stand in the other area while this one is written, and the one before that is gone. */
    private static void areas() {
        for (int k = 1; k <= 5; k++) {
            for (int n = 0; n < 20; n++) {
                UnitLog log = new UnitLog(8);
                for (int number = 1; number < k; number++) {
                    three(log, number);
                    CHECK.due("checkpoint", log.checkpoint(), number);
                }
                log.arm(n);
                String at = "checkpoint " + k + " with " + n + " units";
                CHECK.due(at, log.checkpoint(), DOWN);
                CHECK.due(at + ": all are in the one before", log.recover(), 0);
                CHECK.due(at + ": its number is given again", log.look(3), k);
                CHECK.due(at + ": serial", log.look(2), k - 1);
                CHECK.due(at + ": the last block", k == 1 ? 0 : log.place(k - 1), k == 1 ? 0 : 3 * (k - 2));
            }
        }
    }

    private static void numbers() {
        UnitLog log = new UnitLog(4);
        CHECK.due("0 at first", log.look(3), 0);
        CHECK.due("the first", log.checkpoint(), 1);
        CHECK.due("the second", log.checkpoint(), 2);
        CHECK.due("the third", log.checkpoint(), 3);
        log.crash();
        log.recover();
        CHECK.due("recover's", log.look(3), 4);
        log.arm(0);
        CHECK.due("does not count", log.checkpoint(), DOWN);
        log.recover();
        CHECK.due("its number again", log.look(3), 5);

        log = new UnitLog(4);
        three(log, 0);
        log.arm(22);
        CHECK.due("number 1 does not count", log.checkpoint(), DOWN);
        CHECK.due("number 0 does", log.recover(), 1);
        CHECK.due("number 1", log.look(3), 1);
    }

    private static void countsWhenAllAreWritten() {
        UnitLog log = new UnitLog(4);
        three(log, 0);
        log.flush();
        log.arm(19);
        CHECK.due("19 units", log.checkpoint(), DOWN);
        CHECK.due("it did not count", log.recover(), 1);
        CHECK.due("number", log.look(3), 1);
        three(log, 1);
        log.flush();
        log.arm(20);
        CHECK.due("20 units", log.checkpoint(), 2);
        CHECK.due("not down", log.look(6), 0);
        CHECK.due("number", log.look(3), 2);
        log.crash();
        CHECK.due("it counted", log.recover(), 0);
        CHECK.due("block 1", log.place(1), 3);
    }

    private static void holdsPlaces() {
        UnitLog log = new UnitLog(4);
        log.write(0, 1, 2);
        log.write(15, 3, 4);
        log.write(0, 5, 6);
        log.write(7, 7, 8);
        log.trim(7);
        CHECK.due("the checkpoint", log.checkpoint(), 1);
        log.crash();
        CHECK.due("nothing is rolled forward", log.recover(), 0);
        CHECK.due("the latest of block 0", log.place(0), 8);
        CHECK.due("its bytes", log.read(0, 1), 6);
        CHECK.due("block 15", log.place(15), 4);
        CHECK.due("its bytes", log.read(15, 0), 3);
        absent(log, "trimmed", 7);
        absent(log, "never written", 1);
    }

    private static void holdsTheRest() {
        UnitLog log = new UnitLog(4);
        fillSegment(log, 0);
        five(log, 4);
        log.checkpoint();
        String before = all(log);
        six(log, 5);
        log.trim(5);
        log.crash();
        CHECK.due("nothing is rolled forward", log.recover(), 0);
        looks(log, "as the checkpoint says", 5, 5, 5, 2, 16 + 5 + 40);
        states(log, "as the checkpoint says", CLOSED, OPEN, FREE, FREE);
        CHECK.due("all but number and units written", all(log), before.replaceFirst("^5 5 5 1 41", "5 5 5 2 61"));
    }

    private static void latestCheckpoint() {
        UnitLog log = new UnitLog(4);
        three(log, 0);
        log.checkpoint();
        three(log, 1);
        log.checkpoint();
        log.trim(0);
        log.flush();
        log.crash();
        CHECK.due("behind the second", log.recover(), 1);
        log.crash();
        CHECK.due("behind recover's own", log.recover(), 0);
        absent(log, "trimmed", 0);
        CHECK.due("there", log.place(1), 3);
        CHECK.due("the fourth", log.look(3), 4);
    }

    private static void greaterSerials() {
        UnitLog log = new UnitLog(4);
        three(log, 0);
        three(log, 0);
        log.checkpoint();
        log.crash();
        CHECK.due("none is greater", log.recover(), 0);
        three(log, 0);
        log.flush();
        log.crash();
        CHECK.due("one is greater", log.recover(), 1);
        CHECK.due("serial", log.look(2), 3);

        log = new UnitLog(8);
        for (int n = 0; n < 35; n++) {
            three(log, n % 16);
        }
        log.flush();
        log.crash();
        CHECK.due("all of seven segments", log.recover(), 35);
    }

    /** The later record of a block lies in a lower segment than the earlier one. */
    private static void bySerial() {
        UnitLog log = new UnitLog(4);
        six(log, 0);
        six(log, 0);
        four(log, 1);
        three(log, 0);
        three(log, 1);
        CHECK.due("segment 0 has no live units", log.clean(), 0);
        six(log, 2);
        CHECK.due("in segment 1", log.place(2), 22);
        five(log, 2);
        CHECK.due("in segment 0", log.place(2), 0);
        log.flush();
        log.crash();
        CHECK.due("both", log.recover(), 2);
        CHECK.due("the later one", log.place(2), 0);
        CHECK.due("its bytes", log.read(2, 1), PLAIN_HIGH);
        states(log, "segment 0 is open", OPEN, CLOSED, FREE, FREE);
        looks(log, "segment 0 is open", 5, 5, 7, 3, 16 + 6 + 40 + 6 + 5 + 20);
    }

    private static void whollyOnTheDisk() {
        for (int n = 0; n <= 6; n++) {
            UnitLog log = new UnitLog(4);
            three(log, 0);
            log.checkpoint();
            six(log, 0);
            log.arm(n);
            CHECK.due("armed with " + n, log.flush(), n < 6 ? DOWN : 6);
            log.crash();
            CHECK.due(n + " of 6 units", log.recover(), n < 6 ? 0 : 1);
            CHECK.due(n + " of 6 units: place", log.place(0), n < 6 ? 0 : 3);
        }
        UnitLog log = new UnitLog(4);
        three(log, 0);
        log.trim(0);
        log.arm(4);
        CHECK.due("one unit of a TRIM record", log.flush(), DOWN);
        CHECK.due("the STORE record alone", log.recover(), 1);
        CHECK.due("not trimmed", log.place(0), 0);
    }

    private static void whatIsBehind() {
        UnitLog log = new UnitLog(4);
        three(log, 0);
        six(log, 1);
        three(log, 2);
        log.arm(8);
        CHECK.due("down in the second", log.flush(), DOWN);
        CHECK.due("the first", log.recover(), 1);
        absent(log, "behind it", 1, 2);
        looks(log, "behind it", 3, 3, 1, 1, 28);
        CHECK.due("no live units of it", log.live(0), 3);
        four(log, 2);
        CHECK.due("its units are taken again", log.place(2), 3);
    }

    /** Units of the lost records still lie on the disk when their serials and units are used again. */
    private static void neverComesBack() {
        UnitLog log = new UnitLog(4);
        three(log, 0);
        six(log, 1);
        three(log, 2);
        log.arm(8);
        CHECK.due("down in the second", log.flush(), DOWN);
        log.recover();
        three(log, 3);
        log.arm(1);
        CHECK.due("down again, over the same units", log.flush(), DOWN);
        CHECK.due("its other units are another record's", log.recover(), 0);
        absent(log, "lost", 1, 2, 3);
        six(log, 4);
        log.flush();
        log.crash();
        CHECK.due("the new second, and no third", log.recover(), 1);
        absent(log, "lost", 1, 2, 3);
        CHECK.due("there", log.place(4), 3);
        CHECK.due("serial", log.look(2), 2);
        log.crash();
        CHECK.due("nothing more", log.recover(), 0);
    }

    private static void openByRecord() {
        UnitLog log = new UnitLog(4);
        fillSegment(log, 0);
        log.checkpoint();
        three(log, 4);
        three(log, 5);
        log.arm(3);
        CHECK.due("down", log.flush(), DOWN);
        CHECK.due("one", log.recover(), 1);
        states(log, "the next segment", CLOSED, OPEN, FREE, FREE);

        log = new UnitLog(4);
        fillSegment(log, 0);
        three(log, 4);
        log.arm(2);
        CHECK.due("down", log.flush(), DOWN);
        CHECK.due("four", log.recover(), 4);
        states(log, "the full one again", OPEN, FREE, FREE, FREE);
    }

    private static void openByCheckpoint() {
        UnitLog log = new UnitLog(4);
        three(log, 0);
        log.crash();
        CHECK.due("none behind checkpoint 0", log.recover(), 0);
        states(log, "segment 0", OPEN, FREE, FREE, FREE);

        log = new UnitLog(4);
        fillSegment(log, 0);
        fillSegment(log, 4);
        log.checkpoint();
        six(log, 8);
        log.crash();
        CHECK.due("none behind checkpoint 1", log.recover(), 0);
        states(log, "segment 1", CLOSED, OPEN, FREE, FREE);
    }

    private static void fillByRecord() {
        UnitLog log = new UnitLog(4);
        three(log, 0);
        log.checkpoint();
        four(log, 1);
        log.trim(1);
        five(log, 2);
        log.arm(6 + 4);
        CHECK.due("down", log.flush(), DOWN);
        CHECK.due("two", log.recover(), 2);
        CHECK.due("FILL: behind the TRIM record", log.look(0), 9);
        CHECK.due("SAVED: not the units of the lost one", log.look(1), 9);
        CHECK.due("nothing to save", log.flush(), 0);
    }

    private static void fillByCheckpoint() {
        UnitLog log = new UnitLog(4);
        fillSegment(log, 0);
        log.checkpoint();
        three(log, 4);
        log.arm(2);
        CHECK.due("down", log.flush(), DOWN);
        CHECK.due("none", log.recover(), 0);
        looks(log, "full", 16, 16, 4, 2, 16 + 20 + 2 + 20);
        CHECK.due("the next segment is opened again", three(log, 4), 3);
        CHECK.due("there", log.place(4), 16);

        log = new UnitLog(4);
        log.checkpoint();
        six(log, 0);
        log.crash();
        log.recover();
        looks(log, "empty", 0, 0, 0, 2, 40);
    }

    private static void closedOrFree() {
        UnitLog log = new UnitLog(5);
        fillSegment(log, 0);
        fillSegment(log, 4);
        fillSegment(log, 8);
        four(log, 0);
        four(log, 1);
        four(log, 2);
        four(log, 3);
        states(log, "before", CLOSED, CLOSED, CLOSED, OPEN, FREE);
        log.crash();
        CHECK.due("three segments were saved", log.recover(), 12);
        states(log, "all of 0 is live again", CLOSED, CLOSED, OPEN, FREE, FREE);
        fillSegment(log, 0);
        log.flush();
        log.crash();
        CHECK.due("the fourth too", log.recover(), 4);
        states(log, "none of 0 is live", FREE, CLOSED, CLOSED, OPEN, FREE);
        log.trim(4);
        log.trim(5);
        log.trim(6);
        log.flush();
        log.crash();
        CHECK.due("three of four", log.recover(), 3);
        states(log, "four units are live", OPEN, CLOSED, CLOSED, CLOSED, FREE);
        log.trim(0);
        log.trim(1);
        log.trim(2);
        log.trim(3);
        log.flush();
        log.crash();
        CHECK.due("four", log.recover(), 4);
        states(log, "the open one has no live units", OPEN, CLOSED, CLOSED, FREE, FREE);
    }

    private static void nextSerial() {
        UnitLog log = new UnitLog(4);
        three(log, 0);
        log.crash();
        log.recover();
        CHECK.due("the last one's: none", log.look(2), 0);
        three(log, 0);
        CHECK.due("the first", log.look(2), 1);
        log.flush();
        three(log, 0);
        three(log, 0);
        CHECK.due("the third", log.look(2), 3);
        log.crash();
        log.recover();
        CHECK.due("the last one's: rolled forward", log.look(2), 1);
        three(log, 0);
        CHECK.due("the second", log.look(2), 2);
        log.checkpoint();
        three(log, 0);
        log.crash();
        log.recover();
        CHECK.due("the last one's: the checkpoint's", log.look(2), 2);
        three(log, 0);
        CHECK.due("the third", log.look(2), 3);
    }

    private static void thenACheckpoint() {
        UnitLog log = new UnitLog(4);
        three(log, 0);
        log.flush();
        log.crash();
        CHECK.due("one", log.recover(), 1);
        looks(log, "its number, and 20 units", 3, 3, 1, 1, 23);
        log.crash();
        CHECK.due("it holds that one", log.recover(), 0);
        looks(log, "the next", 3, 3, 1, 2, 43);
        CHECK.due("there", log.place(0), 0);
    }
}
