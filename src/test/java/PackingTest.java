import java.util.List;

/** Stored forms (promise 5 and the units of promise 2), written out by hand, and unpacked again. */
public final class PackingTest {
    private static final Check CHECK = new Check();

    public static void main(String[] args) {
        allTheSame();
        longestMatchThenNearest();
        oneByteFewerThanPlain();
        asLongAsPlain();
        noMatch();
        matchAtTheEnd();
        unitsByLength();
        unpackedAgain();
        CHECK.end();
    }

    private static void form(String name, String bytes, int... want) {
        UnitLog log = new UnitLog(4);
        long high = Long.parseUnsignedLong(bytes.substring(0, 16), 16);
        long low = Long.parseUnsignedLong(bytes.substring(16), 16);
        CHECK.due(name + ": units", log.write(7, high, low), 2 + (want.length + 3) / 4);
        CHECK.due(name + ": length", log.packed(7, -1), want.length);
        for (int k = 0; k < want.length; k++) {
            CHECK.due(name + ": byte " + k, log.packed(7, k), want[k]);
        }
        CHECK.due(name + ": behind the last", log.packed(7, want.length), UnitLog.BAD);
        CHECK.due(name + ": high", log.read(7, 0), high);
        CHECK.due(name + ": low", log.read(7, 1), low);
    }

    private static void allTheSame() {
        form("zeros", "00000000000000000000000000000000", 29, 0, 1);
        form("ones", "ffffffffffffffffffffffffffffffff", 29, 255, 1);
        form("two in turn", "abcdabcdabcdabcdabcdabcdabcdabcd", 32 + 12, 0xab, 0xcd, 2);
    }

    private static void longestMatchThenNearest() {
        // abcd abce abcd fghi: the longer match lies farther back than the nearer one.
        form("longest", "0a0b0c0d0a0b0c0e0a0b0c0d01020304",
                65, 10, 11, 12, 13, 4, 18, 14, 8, 64, 1, 2, 3, 4);
        // abcx abcy abcz ....: of two matches of three bytes the nearer one.
        form("nearest", "0a0b0c010a0b0c020a0b0c0303030303",
                65, 10, 11, 12, 1, 4, 17, 2, 4, 16 + 2, 3, 1);
        // A match of two bytes is none.
        form("two are too few", "0a0b010a0b020a0b030a0b0404040404",
                16 * 12 + 2, 10, 11, 1, 10, 11, 2, 10, 11, 3, 10, 11, 4, 1);
        // What is taken at a place is not given up for a longer one at the next.
        form("greedy", "01020309020304050102030405050505",
                128 + 1, 1, 2, 3, 9, 2, 3, 4, 5, 8, 32 + 1, 4, 5, 1);
    }

    private static void oneByteFewerThanPlain() {
        form("fifteen", "000102030405060708090a0b0c0a0b0c",
                16 * 13 + 1, 0, 1, 2, 3, 4, 5, 6, 7, 8, 9, 10, 11, 12, 3);
    }

    private static void asLongAsPlain() {
        form("sixteen", "01020301020304050607080910111213",
                1, 2, 3, 1, 2, 3, 4, 5, 6, 7, 8, 9, 16, 17, 18, 19);
    }

    private static void noMatch() {
        form("eighteen", "000102030405060708090a0b0c0d0e0f",
                0, 1, 2, 3, 4, 5, 6, 7, 8, 9, 10, 11, 12, 13, 14, 15);
        form("high bytes", "f0f1f2f3f4f5f6f7f8f9fafbfcfdfeff",
                240, 241, 242, 243, 244, 245, 246, 247, 248, 249, 250, 251, 252, 253, 254, 255);
    }

    private static void matchAtTheEnd() {
        form("ends with a match", "0123456789abcdef0123456789abcdef",
                128 + 6, 1, 0x23, 0x45, 0x67, 0x89, 0xab, 0xcd, 0xef, 8);
        form("ends with literals", "00000000000000000000000000000102",
                16 + 11, 0, 1, 32, 1, 2);
        form("match behind match", "07070707080808080707070708080808",
                16 + 1, 7, 1, 16 + 1, 8, 1, 6, 8);
    }

    private static void unitsByLength() {
        // 3 bytes, 5 bytes, 10 bytes, 16 bytes.
        UnitLog log = new UnitLog(4);
        CHECK.due("one unit of bytes", log.write(0, 0, 0), 3);
        CHECK.due("two units of bytes", log.write(0, 0, 0x0102), 4);
        CHECK.due("three units of bytes", log.write(1, 0x0123456789abcdefL, 0x0123456789abcdefL), 5);
        CHECK.due("four units of bytes", log.write(2, 0x0001020304050607L, 0x08090a0b0c0d0e0fL), 6);
    }

    /** The form says the bytes again, and is the one that the model makes. */
    private static void unpackedAgain() {
        long mixed = 1;
        for (int run = 0; run < 400; run++) {
            UnitLog log = new UnitLog(4);
            mixed = mixed * 6364136223846793005L + 1442695040888963407L;
            long high = mixed & mask(run);
            mixed = mixed * 6364136223846793005L + 1442695040888963407L;
            long low = mixed & mask(run + run / 3);
            log.write(0, high, low);
            int size = log.packed(0, -1);
            int[] form = new int[size];
            for (int k = 0; k < size; k++) {
                form[k] = log.packed(0, k);
            }
            int[] bytes = Model.bytesOf(high, low);
            int[] again = size == 16 ? form : unpack(form);
            for (int i = 0; i < 16; i++) {
                CHECK.due("unpacked byte " + i + " of " + high + ", " + low, again[i], bytes[i]);
            }
            List<Integer> want = Model.storedForm(bytes);
            CHECK.due("length for " + high + ", " + low, size, want.size());
            for (int k = 0; k < Math.min(size, want.size()); k++) {
                CHECK.due("byte " + k + " for " + high + ", " + low, form[k], want.get(k));
            }
        }
    }

    private static long mask(int run) {
        long[] masks = {0x0101010101010101L, 0x0303030303030303L, 0x0100000100010001L, -1L, 0x0707070707070707L};
        return masks[run % masks.length];
    }

    private static int[] unpack(int[] form) {
        int[] bytes = new int[16];
        int at = 0;
        int k = 0;
        while (k < form.length) {
            int literals = form[k] / 16;
            int m = form[k] % 16;
            k++;
            for (int i = 0; i < literals; i++) {
                bytes[at++] = form[k++];
            }
            if (m != 0) {
                int d = form[k++];
                for (int i = 0; i < m + 2; i++) {
                    bytes[at] = bytes[at - d];
                    at++;
                }
            }
        }
        CHECK.due("unpacked length", at, 16);
        return bytes;
    }
}
