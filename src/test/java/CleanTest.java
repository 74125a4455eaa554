/** Promise 9: each sentence has a test of its own. */
public final class CleanTest extends LogSteps {
    public static void main(String[] args) {
        sentence("9: Takes the closed segment with the fewest live units", CleanTest::fewest);
        sentence("9: (of these the lowest)", CleanTest::lowest);
        sentence("9: makes a checkpoint, appends .., makes a checkpoint", CleanTest::twoCheckpoints);
        sentence("9: for each STORE record in it that is the latest one of its block", CleanTest::latestOnly);
        sentence("9: by place", CleanTest::byPlace);
        sentence("9: (here the free segments may all be used)", CleanTest::lastFree);
        sentence("9: then the segment is free", CleanTest::free);
        sentence("9: how many records were appended", CleanTest::howMany);
        sentence("9: DOWN", CleanTest::whileDown);
        sentence("9: NONE: no segment is closed", CleanTest::noneClosed);
        sentence("9: ROOM, ..: these records wouldn't have room", CleanTest::withoutRoom);
        sentence("9: and nothing is done", CleanTest::nothingIsDone);
        sentence("9: DOWN, if the store goes down", CleanTest::goesDown);
        sentence("9: DOWN, if the store goes down", CleanTest::goesDownOpening);
        CHECK.end();
    }

    private static void fewest() {
        UnitLog log = new UnitLog(6);
        fillSegment(log, 0);
        fillSegment(log, 4);
        fillSegment(log, 8);
        fillSegment(log, 12);
        log.trim(0);
        log.trim(4);
        log.trim(5);
        log.trim(8);
        log.trim(9);
        log.trim(10);
        lives(log, "before", 12, 8, 4, 16, 0, 0);
        CHECK.due("the third", log.clean(), 1);
        states(log, "the third", CLOSED, CLOSED, FREE, CLOSED, OPEN, FREE);
        lives(log, "the third", 12, 8, 0, 16, 4, 0);
        CHECK.due("the second", log.clean(), 2);
        states(log, "the second, its records in the lowest free one", CLOSED, FREE, OPEN, CLOSED, CLOSED, FREE);
    }

    private static void lowest() {
        UnitLog log = new UnitLog(6);
        fillSegment(log, 0);
        fillSegment(log, 4);
        fillSegment(log, 8);
        three(log, 5);
        three(log, 7);
        three(log, 9);
        three(log, 10);
        lives(log, "before", 16, 8, 8, 12, 0, 0);
        CHECK.due("of the second and the third", log.clean(), 2);
        states(log, "the second", CLOSED, FREE, CLOSED, CLOSED, OPEN, FREE);
        CHECK.due("the third", log.clean(), 2);
        states(log, "the third", CLOSED, FREE, FREE, CLOSED, OPEN, FREE);

        log = new UnitLog(8);
        for (int n = 0; n < 7; n++) {
            fillSegment(log, 0);
        }
        for (int s = 0; s < 6; s++) {
            CHECK.due("none is live: " + s, log.clean(), 0);
            CHECK.due("none is live: " + s, log.segment(s), FREE);
            CHECK.due("none is live: " + (s + 1), log.segment(s + 1), s < 5 ? CLOSED : OPEN);
        }
        CHECK.due("none is closed", log.clean(), NONE);
    }

    private static void twoCheckpoints() {
        UnitLog log = new UnitLog(4);
        fillSegment(log, 0);
        three(log, 0);
        looks(log, "before", 3, 0, 5, 0, 16);
        CHECK.due("three", log.clean(), 3);
        looks(log, "3 and 12 units, and two checkpoints", 15, 15, 8, 2, 16 + 3 + 20 + 12 + 20);
        log.crash();
        CHECK.due("nothing is behind the second", log.recover(), 0);

        log = new UnitLog(4);
        fillSegment(log, 0);
        fillSegment(log, 0);
        CHECK.due("none", log.clean(), 0);
        looks(log, "16 units, and two checkpoints", 16, 16, 8, 2, 16 + 16 + 40);
    }

    private static void latestOnly() {
        UnitLog log = new UnitLog(4);
        three(log, 0);
        three(log, 0);
        three(log, 1);
        log.trim(1);
        three(log, 2);
        log.trim(2);
        CHECK.due("full", log.look(0), 16);
        three(log, 3);
        lives(log, "before", 3, 3, 0, 0);
        CHECK.due("the second record alone", log.clean(), 1);
        CHECK.due("block 0", log.place(0), 19);
        absent(log, "trimmed", 1, 2);
        looks(log, "one record", 6, 6, 8, 2, 16 + 3 + 20 + 3 + 20);
        log.crash();
        CHECK.due("the TRIM records are not needed", log.recover(), 0);
        absent(log, "trimmed", 1, 2);

        // The same bytes in another segment: the record here is not the latest one.
        log = new UnitLog(4);
        fillSegment(log, 0);
        four(log, 2);
        CHECK.due("all but block 2", log.clean(), 3);
        CHECK.due("block 2", log.place(2), 16);
    }

    private static void byPlace() {
        UnitLog log = new UnitLog(4);
        four(log, 9);
        six(log, 2);
        three(log, 5);
        three(log, 0);
        log.write(7, -1, -1);
        CHECK.due("four", log.clean(), 4);
        CHECK.due("block 9", log.place(9), 19);
        CHECK.due("block 2", log.place(2), 23);
        CHECK.due("block 5", log.place(5), 29);
        CHECK.due("block 0, in the next segment", log.place(0), 32);
        CHECK.due("bytes", log.read(9, 1), 0x0102);
        CHECK.due("bytes", log.read(2, 1), PLAIN_LOW);
        CHECK.due("bytes", log.read(7, 1), -1);
        states(log, "by place", FREE, CLOSED, OPEN, FREE);
    }

    private static void lastFree() {
        UnitLog log = oneFree();
        CHECK.due("FILL", log.look(0), 3);
        six(log, 9);
        six(log, 10);
        CHECK.due("write may not", six(log, 11), ROOM);
        CHECK.due("the cleaner may", log.clean(), 4);
        states(log, "the last one is open", FREE, CLOSED, CLOSED, OPEN);
        CHECK.due("in it", log.place(0), 48);
        CHECK.due("and once more", log.clean(), 3);
        states(log, "the one that was cleaned", OPEN, CLOSED, FREE, CLOSED);

        log = new UnitLog(8);
        for (int block = 0; block < 14; block++) {
            six(log, block);
        }
        CHECK.due("write may not", six(log, 14), ROOM);
        CHECK.due("the cleaner may", log.clean(), 2);
        states(log, "the highest", FREE, CLOSED, CLOSED, CLOSED, CLOSED, CLOSED, CLOSED, OPEN);
        CHECK.due("in it", log.place(0), 112);
    }

    private static void free() {
        UnitLog log = new UnitLog(4);
        fillSegment(log, 0);
        three(log, 4);
        CHECK.due("four", log.clean(), 4);
        CHECK.due("free", log.segment(0), FREE);
        CHECK.due("no live units", log.live(0), 0);
        states(log, "three records filled the open one", FREE, CLOSED, OPEN, FREE);
        for (int n = 0; n < 3; n++) {
            four(log, 5);
        }
        CHECK.due("used again", six(log, 6), 6);
        CHECK.due("from unit 0 on", log.place(6), 0);
        log.flush();
        log.crash();
        CHECK.due("and on the disk", log.recover(), 4);
        CHECK.due("block 6", log.place(6), 0);
        CHECK.due("block 0", log.place(0), 19);
        states(log, "recovered", OPEN, CLOSED, CLOSED, FREE);
    }

    private static void howMany() {
        UnitLog log = new UnitLog(4);
        for (int block = 0; block < 6; block++) {
            three(log, block);
        }
        CHECK.due("five, the most", log.clean(), 5);
        log = new UnitLog(4);
        fillSegment(log, 0);
        fillSegment(log, 0);
        CHECK.due("none, the fewest", log.clean(), 0);
        log = new UnitLog(4);
        six(log, 0);
        six(log, 1);
        six(log, 0);
        CHECK.due("one", log.clean(), 1);
    }

    private static void whileDown() {
        UnitLog log = new UnitLog(4);
        log.crash();
        CHECK.due("none is closed", log.clean(), DOWN);
        log = noneFree();
        six(log, 12);
        log.crash();
        CHECK.due("without room", log.clean(), DOWN);
        log = oneFree();
        log.crash();
        CHECK.due("with room", log.clean(), DOWN);
        CHECK.due("nothing was written", log.look(4), 32);
    }

    private static void noneClosed() {
        UnitLog log = new UnitLog(4);
        CHECK.due("new", log.clean(), NONE);
        fillSegment(log, 0);
        log.arm(0);
        CHECK.due("full, and still open", log.clean(), NONE);
        looks(log, "nothing was done", 16, 0, 4, 0, 0);
        CHECK.due("not down", log.look(6), 0);
        log.disarm();
        three(log, 0);
        CHECK.due("one is closed", log.clean(), 3);
        CHECK.due("it is free", log.clean(), NONE);

        // Closed without live units, it is free when the store has recovered.
        log = new UnitLog(4);
        fillSegment(log, 0);
        fillSegment(log, 0);
        log.flush();
        log.crash();
        log.recover();
        CHECK.due("none is closed any more", log.clean(), NONE);
    }

    private static void withoutRoom() {
        UnitLog log = noneFree();
        CHECK.due("12 units are left for 12", log.clean(), 3);
        states(log, "just enough", FREE, CLOSED, CLOSED, OPEN);
        lives(log, "just enough", 0, 16, 16, 16);

        log = noneFree();
        three(log, 12);
        CHECK.due("9 units are left for 12", log.clean(), ROOM);
        CHECK.due("one is trimmed", log.trim(1), 2);
        CHECK.due("7 units are left for 8", log.clean(), ROOM);
        CHECK.due("another is trimmed", log.trim(2), 2);
        CHECK.due("5 units are left for 4", log.clean(), 1);
        states(log, "one is free", FREE, CLOSED, CLOSED, OPEN);

        log = noneFree();
        log.trim(4);
        log.trim(5);
        log.trim(6);
        log.trim(8);
        log.trim(9);
        CHECK.due("2 units are left", log.look(0), 14);
        CHECK.due("for 4", log.clean(), ROOM);
        log.trim(7);
        lives(log, "the second has none", 12, 0, 8, 4);
        CHECK.due("no unit is left, none is needed", log.clean(), 0);
        states(log, "one is free", CLOSED, FREE, CLOSED, OPEN);
    }

    private static void nothingIsDone() {
        UnitLog log = noneFree();
        six(log, 12);
        log.arm(0);
        String before = all(log);
        CHECK.due("without room, and a disk that would fail", log.clean(), ROOM);
        CHECK.due("nothing is done", all(log), before);
        looks(log, "not saved, no checkpoint", 10, 4, 14, 2, 92);
        CHECK.due("not down", log.look(6), 0);
    }

    /** 4 units are to be saved, then 20, then two records of 3 and 6 units, then 20. */
    private static void goesDown() {
        for (int n = 0; n <= 53; n++) {
            UnitLog log = new UnitLog(4);
            three(log, 0);
            six(log, 1);
            six(log, 2);
            four(log, 1);
            log.arm(n);
            String at = "clean, armed with " + n;
            CHECK.due(at, log.clean(), n < 53 ? DOWN : 2);
            CHECK.due(at + ": down", log.look(6), n < 53 ? 1 : 0);
            CHECK.due(at + ": written", log.look(4), 15 + n);
            CHECK.due(at + ": armed", log.look(5), 0);
            log.crash();
            int before = n < 4 ? 3 : 4;
            int moved = n < 27 ? 0 : n < 33 ? 1 : 2;
            int held = n < 24 ? 0 : n < 53 ? 4 : 6;
            CHECK.due(at + ": rolled", log.recover(), before + moved - held);
            CHECK.due(at + ": serial", log.look(2), before + moved);
            CHECK.due(at + ": checkpoint", log.look(3), n < 24 ? 1 : n < 53 ? 2 : 3);
            CHECK.due(at + ": block 0", log.place(0), moved > 0 ? 20 : 0);
            CHECK.due(at + ": block 1", log.place(1), n < 4 ? 3 : 16);
            CHECK.due(at + ": block 2", log.place(2), moved > 1 ? 23 : 9);
            CHECK.due(at + ": bytes", log.read(2, 1), PLAIN_LOW);
            CHECK.due(at + ": segment 0", log.segment(0), n < 4 ? OPEN : moved > 1 ? FREE : CLOSED);
            CHECK.due(at + ": segment 1", log.segment(1), n < 4 ? FREE : OPEN);
        }
    }

    /** 3 units are to be saved, then 20, then 12 of three records behind them, then 4 of one in segment 2, then 20. */
    private static void goesDownOpening() {
        for (int n = 0; n <= 59; n++) {
            UnitLog log = new UnitLog(4);
            fillSegment(log, 0);
            three(log, 4);
            log.arm(n);
            String at = "clean, armed with " + n;
            CHECK.due(at, log.clean(), n < 59 ? DOWN : 4);
            CHECK.due(at + ": written", log.look(4), 16 + n);
            log.crash();
            int moved = n < 23 ? 0 : n < 35 ? (n - 23) / 4 : n < 39 ? 3 : 4;
            int before = n < 3 ? 4 : 5;
            CHECK.due(at + ": rolled", log.recover(), n < 23 ? before : n < 59 ? moved : 0);
            CHECK.due(at + ": serial", log.look(2), before + moved);
            CHECK.due(at + ": block 0", log.place(0), moved > 0 ? 19 : 0);
            CHECK.due(at + ": block 2", log.place(2), moved > 2 ? 27 : 8);
            CHECK.due(at + ": block 3", log.place(3), moved > 3 ? 32 : 12);
            CHECK.due(at + ": FILL", log.look(0), n < 3 ? 16 : moved > 3 ? 4 : 3 + 4 * moved);
            CHECK.due(at + ": segment 0", log.segment(0), n < 3 ? OPEN : moved > 3 ? FREE : CLOSED);
            CHECK.due(at + ": segment 1", log.segment(1), n < 3 ? FREE : moved > 3 ? CLOSED : OPEN);
            CHECK.due(at + ": segment 2", log.segment(2), moved > 3 ? OPEN : FREE);
        }
    }
}
