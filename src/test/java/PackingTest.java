import java.util.List;

/** PACKING: each sentence by itself, with stored forms written out by hand; then many forms, unpacked again. */
public final class PackingTest extends LogSteps {
    public static void main(String[] args) {
        sentence("their packed form if that has fewer than 16 bytes", PackingTest::packedIfFewer);
        sentence("else the 16 bytes themselves", PackingTest::elsePlain);
        sentence("A piece is a byte 16 L + M, L bytes (literals), and, if M is not 0, a byte D", PackingTest::pieces);
        sentence("each is the one that stands D places before it", PackingTest::distances);
        sentence("a length n from 3", PackingTest::threeAtLeast);
        sentence("to 16 - i", PackingTest::notBeyondTheEnd);
        sentence("the one with the greatest n", PackingTest::longest);
        sentence("of these with the greatest j", PackingTest::nearest);
        sentence("a piece ends with M = n - 2, D = i - j, and the next place is i + n", PackingTest::goesOnBehind);
        sentence("If there is none, byte i is a literal of the piece", PackingTest::literals);
        sentence("if the piece has 15 literals then, it ends with M = 0", PackingTest::fifteenLiterals);
        sentence("At place 16 a piece that has literals ends with M = 0", PackingTest::endsWithLiterals);
        sentence("(Each piece begins where the one before ended.)", PackingTest::behindOneAnother);
        sentence("The packed form is a row of PIECES", PackingTest::unpackedAgain);
        CHECK.end();
    }

    private static void form(String name, String bytes, int... want) {
        UnitLog log = new UnitLog(4);
        long high = Long.parseUnsignedLong(bytes.substring(0, 16), 16);
        long low = Long.parseUnsignedLong(bytes.substring(16), 16);
        CHECK.due(name + ": units", log.write(7, high, low), 2 + (want.length + 3) / 4);
        CHECK.due(name + ": length", log.packed(7, -1), want.length);
        for (int k = 0; k < want.length; k++) {
            CHECK.due(name + ": byte " + k, log.packed(7, k), want[k]);
        }
        CHECK.due(name + ": behind the last", log.packed(7, want.length), BAD);
        CHECK.due(name + ": high", log.read(7, 0), high);
        CHECK.due(name + ": low", log.read(7, 1), low);
    }

    private static void packedIfFewer() {
        form("15 bytes", "000102030405060708090a0b0c0a0b0c",
                16 * 13 + 1, 0, 1, 2, 3, 4, 5, 6, 7, 8, 9, 10, 11, 12, 3);
        form("3 bytes, the fewest", "00000000000000000000000000000000", 16 + 13, 0, 1);
        form("two matches of three make 15", "01020301020304050604050607080900",
                49, 1, 2, 3, 3, 49, 4, 5, 6, 3, 64, 7, 8, 9, 0);
    }

    private static void elsePlain() {
        form("16 bytes: one match of three in the middle", "01020301020304050607080910111213",
                1, 2, 3, 1, 2, 3, 4, 5, 6, 7, 8, 9, 16, 17, 18, 19);
        form("16 bytes: a match up to the last but one", "0102030405060708090a0b0c0102031f",
                1, 2, 3, 4, 5, 6, 7, 8, 9, 10, 11, 12, 1, 2, 3, 31);
        form("18 bytes", "f0f1f2f3f4f5f6f7f8f9fafbfcfdfeff",
                240, 241, 242, 243, 244, 245, 246, 247, 248, 249, 250, 251, 252, 253, 254, 255);
    }

    private static void pieces() {
        form("the fewest literals, the longest match", "ffffffffffffffffffffffffffffffff", 16 + 13, 255, 1);
        form("the most literals before a match", "101112131415161718191a1b1c101112",
                16 * 13 + 1, 16, 17, 18, 19, 20, 21, 22, 23, 24, 25, 26, 27, 28, 13);
        form("no literal before a match", "07070707080808080707070708080808", 17, 7, 1, 17, 8, 1, 6, 8);
        form("no D where M is 0", "0000000000000000000000000000ff80", 16 + 11, 0, 1, 32, 255, 128);
    }

    private static void distances() {
        form("1, into itself", "80808080808080808080808080808080", 16 + 13, 128, 1);
        form("2, into itself", "abcdabcdabcdabcdabcdabcdabcdabcd", 32 + 12, 0xab, 0xcd, 2);
        form("8, up to itself", "0123456789abcdef0123456789abcdef",
                128 + 6, 1, 0x23, 0x45, 0x67, 0x89, 0xab, 0xcd, 0xef, 8);
        form("12, from place 0", "0102030405060708090a0b0c01020304",
                16 * 12 + 2, 1, 2, 3, 4, 5, 6, 7, 8, 9, 10, 11, 12, 12);
        form("13, the farthest", "0102030405060708090a0b0c0d010203",
                16 * 13 + 1, 1, 2, 3, 4, 5, 6, 7, 8, 9, 10, 11, 12, 13, 13);
    }

    private static void threeAtLeast() {
        form("two are none", "0a0b010a0b020a0b030a0b0404040404",
                16 * 12 + 2, 10, 11, 1, 10, 11, 2, 10, 11, 3, 10, 11, 4, 1);
        form("three are one", "0a0b0c0a0b0c01010101010101010101", 49, 10, 11, 12, 3, 23, 1, 1);
        form("two of the same are none", "01010202030304040505060607070808",
                1, 1, 2, 2, 3, 3, 4, 4, 5, 5, 6, 6, 7, 7, 8, 8);
        form("three of the same are none: only two are left for the match", "010101020202030303040404050505ff",
                1, 1, 1, 2, 2, 2, 3, 3, 3, 4, 4, 4, 5, 5, 5, 255);
        form("four of the same are one", "01010101020202020303030304040404",
                17, 1, 1, 17, 2, 1, 17, 3, 1, 17, 4, 1);
    }

    private static void notBeyondTheEnd() {
        form("at place 13 three", "0a0b0c000000000000000000000a0b0c",
                16 * 4 + 7, 10, 11, 12, 0, 1, 1, 13);
        form("at place 14 two are left", "0a0b0000000000000000000000000a0b",
                16 * 3 + 9, 10, 11, 0, 1, 32, 10, 11);
        form("at place 15 one is left", "0a00000000000000000000000000000a",
                16 * 2 + 11, 10, 0, 1, 16, 10);
    }

    private static void longest() {
        form("the farther one is longer", "0a0b0c0d0a0b0c0e0a0b0c0d01020304",
                65, 10, 11, 12, 13, 4, 18, 14, 8, 64, 1, 2, 3, 4);
        form("the nearer one is longer", "0a0b0c0e0a0b0c0d0a0b0c0d01020304",
                65, 10, 11, 12, 14, 4, 18, 13, 4, 64, 1, 2, 3, 4);
        form("the longest at this place, though the next has a longer one", "01020309020304050102030405050505",
                128 + 1, 1, 2, 3, 9, 2, 3, 4, 5, 8, 32 + 1, 4, 5, 1);
    }

    private static void nearest() {
        form("of two", "0a0b0c010a0b0c020a0b0c0303030303",
                65, 10, 11, 12, 1, 4, 17, 2, 4, 16 + 2, 3, 1);
        form("of all places before", "00000000000000000000000000000001", 16 + 12, 0, 1, 16, 1);
        form("of two that end with the last byte", "0a0b0c000a0b0c010a0b0c0d0d0a0b0c",
                65, 10, 11, 12, 0, 4, 17, 1, 4, 33, 13, 13, 5);
    }

    private static void goesOnBehind() {
        form("the fewest", "0a0b0c0a0b0cffffffffffffffffffff", 49, 10, 11, 12, 3, 16 + 7, 255, 1);
        form("one in between", "0a0b0c0a0b0c010a0b0c010101010101",
                49, 10, 11, 12, 3, 18, 1, 4, 3, 1);
    }

    private static void literals() {
        form("at place 0 there is no place before", "05050505050505050505050505050505", 16 + 13, 5, 1);
        form("at place 1 there is one", "05060606060606060606060606060606", 32 + 12, 5, 6, 1);
    }

    /** Fifteen literals leave one byte, so that the form is longer than the bytes: no call can show the piece itself. */
    private static void fifteenLiterals() {
        form("16 literals", "000102030405060708090a0b0c0d0e0f",
                0, 1, 2, 3, 4, 5, 6, 7, 8, 9, 10, 11, 12, 13, 14, 15);
        form("14 literals and two that were there", "000102030405060708090a0b0c0d0001",
                0, 1, 2, 3, 4, 5, 6, 7, 8, 9, 10, 11, 12, 13, 0, 1);
        form("15 literals and one that was there", "000102030405060708090a0b0c0d0e0e",
                0, 1, 2, 3, 4, 5, 6, 7, 8, 9, 10, 11, 12, 13, 14, 14);
    }

    private static void endsWithLiterals() {
        form("one", "00000000000000000000000000000001", 16 + 12, 0, 1, 16, 1);
        form("ten", "000000000000010203040506070809ff", 16 + 3, 0, 1, 160, 1, 2, 3, 4, 5, 6, 7, 8, 9, 255);
        form("none: no piece", "0123456789abcdef0123456789abcdef",
                128 + 6, 1, 0x23, 0x45, 0x67, 0x89, 0xab, 0xcd, 0xef, 8);
    }

    private static void behindOneAnother() {
        form("four pieces", "01010101020202020303030304040404", 17, 1, 1, 17, 2, 1, 17, 3, 1, 17, 4, 1);
        form("a match behind a match", "01010101020202020101010102020202", 17, 1, 1, 17, 2, 1, 6, 8);
    }

    /** The form says the bytes again, and is the one that the model makes. */
    private static void unpackedAgain() {
        long mixed = 1;
        for (int run = 0; run < 400; run++) {
            UnitLog log = new UnitLog(4);
            mixed = mixed * 6364136223846793005L + 1442695040888963407L;
            long high = mixed & mask(run);
            mixed = mixed * 6364136223846793005L + 1442695040888963407L;
            long low = mixed & mask(run + run / 3);
            log.write(0, high, low);
            int size = log.packed(0, -1);
            int[] form = new int[size];
            for (int k = 0; k < size; k++) {
                form[k] = log.packed(0, k);
            }
            int[] bytes = Model.bytesOf(high, low);
            int[] again = size == 16 ? form : unpack(form);
            for (int i = 0; i < 16; i++) {
                CHECK.due("unpacked byte " + i + " of " + high + ", " + low, again[i], bytes[i]);
            }
            List<Integer> want = Model.storedForm(bytes);
            CHECK.due("length for " + high + ", " + low, size, want.size());
            for (int k = 0; k < Math.min(size, want.size()); k++) {
                CHECK.due("byte " + k + " for " + high + ", " + low, form[k], want.get(k));
            }
        }
    }

    private static long mask(int run) {
        long[] masks = {0x0101010101010101L, 0x0303030303030303L, 0x0100000100010001L, -1L, 0x0707070707070707L};
        return masks[run % masks.length];
    }

    private static int[] unpack(int[] form) {
        int[] bytes = new int[16];
        int at = 0;
        int k = 0;
        while (k < form.length) {
            int literals = form[k] / 16;
            int m = form[k] % 16;
            k++;
            for (int i = 0; i < literals; i++) {
                bytes[at++] = form[k++];
            }
            if (m != 0) {
                int d = form[k++];
                for (int i = 0; i < m + 2; i++) {
                    bytes[at] = bytes[at - d];
                    at++;
                }
            }
        }
        CHECK.due("unpacked length", at, 16);
        return bytes;
    }
}
