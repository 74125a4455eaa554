import java.util.Random;

/** Runs of up to 512 calls, drawn from fixed seeds, answered by UnitLog as by the model. */
public final class ModelTest {
    private static final int CALLS = 512;
    private static final int RUNS = 4000;
    private static final Check CHECK = new Check();

    public static void main(String[] args) {
        for (int seed = 0; seed < RUNS && CHECK.wrong() == 0; seed++) {
            run(seed);
        }
        for (int n = 0; n <= 120 && CHECK.wrong() == 0; n++) {
            downAfter(n);
        }
        CHECK.end();
    }

    /** What a run is likely to do: changes how often it goes down, cleans and overwrites. */
    private static void run(int seed) {
        Random random = new Random(seed);
        int segments = random.nextInt(8) == 0 ? random.nextInt(14) - 2 : 4 + random.nextInt(5);
        UnitLog log = new UnitLog(segments);
        Model model = new Model(segments);
        int blocks = 1 + random.nextInt(16);
        int mood = random.nextInt(4);
        for (int n = 0; n < CALLS && CHECK.wrong() == 0; n++) {
            call(log, model, random, blocks, mood, "seed " + seed + ", call " + n + ": ");
        }
    }

    private static void call(UnitLog log, Model model, Random random, int blocks, int mood, String at) {
        int block = random.nextInt(40) == 0 ? random.nextInt(20) - 2 : random.nextInt(blocks);
        if (model.look(6) == 1 && random.nextInt(3) == 0) {
            CHECK.due(at + "recover()", log.recover(), model.recover());
            return;
        }
        switch (random.nextInt(24)) {
            case 0: case 1: case 2: case 3: case 4: case 5: case 6:
                long high = half(random);
                long low = random.nextInt(4) == 0 ? high : half(random);
                CHECK.due(at + "write(" + block + ", " + high + ", " + low + ")",
                        log.write(block, high, low), model.write(block, high, low));
                break;
            case 7: case 8:
                CHECK.due(at + "trim(" + block + ")", log.trim(block), model.trim(block));
                break;
            case 9:
                if (mood != 1) {
                    CHECK.due(at + "flush()", log.flush(), model.flush());
                }
                break;
            case 10:
                if (mood == 0 || random.nextInt(6) == 0) {
                    CHECK.due(at + "checkpoint()", log.checkpoint(), model.checkpoint());
                }
                break;
            case 11: case 12:
                CHECK.due(at + "clean()", log.clean(), model.clean());
                break;
            case 13:
                int n = random.nextInt(30) == 0 ? random.nextInt(3) * 10001 - 1 : random.nextInt(70);
                if (mood != 2 || random.nextInt(6) == 0) {
                    CHECK.due(at + "arm(" + n + ")", log.arm(n), model.arm(n));
                }
                break;
            case 14:
                CHECK.due(at + "disarm()", log.disarm(), model.disarm());
                break;
            case 15:
                if (mood == 3 || random.nextInt(6) == 0) {
                    CHECK.due(at + "crash()", log.crash(), model.crash());
                }
                break;
            default:
                ask(log, model, random, block, at);
        }
    }

    private static void ask(UnitLog log, Model model, Random random, int block, String at) {
        int segment = random.nextInt(11) - 1;
        int what = random.nextInt(9) - 1;
        int half = random.nextInt(20) == 0 ? random.nextInt(4) - 1 : random.nextInt(2);
        int k = random.nextInt(19) - 2;
        switch (random.nextInt(7)) {
            case 0:
                CHECK.due(at + "read(" + block + ", " + half + ")", log.read(block, half), model.read(block, half));
                break;
            case 1:
                CHECK.due(at + "packed(" + block + ", " + k + ")", log.packed(block, k), model.packed(block, k));
                break;
            case 2:
                CHECK.due(at + "place(" + block + ")", log.place(block), model.place(block));
                break;
            case 3:
                CHECK.due(at + "live(" + segment + ")", log.live(segment), model.live(segment));
                break;
            case 4:
                CHECK.due(at + "segment(" + segment + ")", log.segment(segment), model.segment(segment));
                break;
            case 5:
                CHECK.due(at + "recover()", log.recover(), model.recover());
                break;
            default:
                CHECK.due(at + "look(" + what + ")", log.look(what), model.look(what));
        }
    }

    private static long half(Random random) {
        switch (random.nextInt(4)) {
            case 0:
                return random.nextInt(3);
            case 1:
                return random.nextLong();
            case 2:
                return random.nextLong() & 0x0101010101010101L;
            default:
                return random.nextLong() & 0xff00ff0000ff00ffL;
        }
    }

    /** A full store whose cleaner goes down at each unit in turn, all of it looked at behind the recovery. */
    private static void downAfter(int n) {
        UnitLog log = new UnitLog(5);
        Model model = new Model(5);
        String at = "down after " + n + ": ";
        for (int i = 0; i < 14; i++) {
            long high = i % 3 == 0 ? 0 : 0x0102030405060708L * i;
            CHECK.due(at + "write", log.write(i % 9, high, i), model.write(i % 9, high, i));
        }
        CHECK.due(at + "trim", log.trim(2), model.trim(2));
        CHECK.due(at + "arm", log.arm(n), model.arm(n));
        CHECK.due(at + "clean", log.clean(), model.clean());
        CHECK.due(at + "clean", log.clean(), model.clean());
        CHECK.due(at + "look(4)", log.look(4), model.look(4));
        CHECK.due(at + "look(5)", log.look(5), model.look(5));
        compareAll(log, model, at);
        log.crash();
        model.crash();
        CHECK.due(at + "recover", log.recover(), model.recover());
        compareAll(log, model, at + "recovered: ");
        CHECK.due(at + "write", log.write(1, 1, 1), model.write(1, 1, 1));
        CHECK.due(at + "clean", log.clean(), model.clean());
        compareAll(log, model, at + "cleaned: ");
    }

    private static void compareAll(UnitLog log, Model model, String at) {
        for (int block = 0; block < 16; block++) {
            CHECK.due(at + "place(" + block + ")", log.place(block), model.place(block));
            CHECK.due(at + "read(" + block + ", 0)", log.read(block, 0), model.read(block, 0));
            CHECK.due(at + "read(" + block + ", 1)", log.read(block, 1), model.read(block, 1));
            CHECK.due(at + "packed(" + block + ", -1)", log.packed(block, -1), model.packed(block, -1));
        }
        for (int s = 0; s < 5; s++) {
            CHECK.due(at + "segment(" + s + ")", log.segment(s), model.segment(s));
            CHECK.due(at + "live(" + s + ")", log.live(s), model.live(s));
        }
        for (int what = 0; what < 7; what++) {
            CHECK.due(at + "look(" + what + ")", log.look(what), model.look(what));
        }
    }
}
