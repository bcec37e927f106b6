import java.util.Arrays;
import java.util.function.Consumer;

/** The edges of what the document says of mode 0, of mode 1, and of the bytes that a slice has. */
public final class EdgesOfCodingTest {
    private static final int[] SMALL = {0, 1, 2, 3};
    private static final int[] NEAR = {0, 1, 4, 5, 6, 9, 10};
    private static final int[] FAR = {0, 1, 127, 128, 254, 255};
    private static final int[] MANY = {0, 1, 7, 8, 20, 21, 22, 23, 24, 25, 26, 27, 100, 128, 200, 255};

    public static void main(String[] args) {
        bitsOfOneValue();
        bitsThatLearn();
        bitsThatForget();
        lastByte();
        rangesOfOneValue();
        rangesThatLearn();
        digits();
        Expect.end();
    }

    /** What a picture of few samples is written as, in mode 0: bits, up to the last byte's end. */
    private static void bits(String due, int... row) {
        FrameVault vault = new FrameVault();
        vault.shape(row.length, 1, 1);
        vault.frame(0);
        for (int x = 0; x < row.length; x++) {
            vault.set(0, 0, x, 0, row[x]);
        }
        int size = vault.write(0, 1);
        StringBuilder got = new StringBuilder();
        for (int k = 31; k < size - 2; k++) {
            got.append(Integer.toBinaryString(256 + vault.byteAt(k)).substring(1));
        }
        String whole = due.replace(" ", "");
        while (whole.length() % 8 != 0) {
            whole += "0";
        }
        Expect.same("row " + Arrays.toString(row), got.toString(), whole);
    }

    private static void bitsOfOneValue() {
        Expect.sentence("Mode 0", "m is 2 e, or -2 e - 1 for e below 0", () -> {
            bits("1 00", 0);
            bits("1 10", 1);
            bits("1 01", 255);
            bits("01 00", 2);
            bits("1 11", 254);
            bits("01 01", 253);
        });
        Expect.sentence("Mode 0", "if w is below 12: w bits 0, a bit 1", () -> {
            bits("0000000000 1 10", 21); // m 42, w 10
            bits("00000000000 1 00", 22); // m 44, w 11
            bits("00000000000 1 10", 23); // m 46, w 11
            bits("000000000000 000110000", 24); // m 48, w 12
            bits("00000000000 1 01", 256 - 23); // m 45, w 11
            bits("00000000000 1 11", 256 - 24); // m 47, w 11
            bits("000000000000 000110001", 256 - 25); // m 49, w 12
            bits("000000000000 000110100", 26); // m 52, w 13
        });
        Expect.sentence("Mode 0", "otherwise 12 bits 0 and the nine bits of m", () -> {
            bits("000000000000 011111110", 127);
            bits("000000000000 011111111", 128);
            bits("000000000000 011111101", 129);
            told("11 bits 0", 3, 4, rules -> rules.mostZeros = 11, MANY);
            told("13 bits 0", 3, 4, rules -> rules.mostZeros = 13, MANY);
            told("eight bits of m", 3, 3, rules -> rules.wholeBits = 8, FAR);
            told("ten bits of m", 1, 3, rules -> rules.wholeBits = 10, FAR);
        });
    }

    private static void told(String what, int planes, int most, Consumer<Rules> turn, int... some) {
        Asides.told(what, Asides.among(0, planes, most, some), turn);
    }

    private static void toldOfSlopes(String what, int mode, Consumer<Rules> turn) {
        Asides.told(what, Asides.slopes(mode, 1), turn);
        Asides.told(what + ", three planes", Asides.slopes(mode, 3), turn);
    }

    private static void bitsThatLearn() {
        Expect.sentence("Mode 0", "a sum, at first 4, and a count, at first 1", () -> {
            told("3", 1, 4, rules -> rules.firstSum = 3, SMALL);
            told("5", 1, 4, rules -> rules.firstSum = 5, SMALL);
            told("a count of 2", 1, 4, rules -> rules.firstCount = 2, SMALL);
        });
        Expect.sentence("Mode 0", "k is the least number for which count * 2 to the k is at least the sum", () -> {
            // All in context 0: k is 2, 1, 1, 0, for 1 * 4, 2 * 2, 3 * 2 and 4 * 1 are at least 4.
            bits("1 00", 0);
            bits("100 1 0", 0, 0);
            bits("100 10 1 0", 0, 0, 0);
            bits("100 10 10 1", 0, 0, 0, 0);
            bits("100 10 10 1 01", 0, 0, 0, 0, 255);
            told("more than the sum", 1, 4, rules -> rules.sumMustBeBelow = 1, SMALL);
            told("one less will do", 1, 4, rules -> rules.sumMustBeBelow = -1, SMALL);
        });
        Expect.sentence("Mode 0", "then the sum grows by |e|, the count by 1", () -> {
            // 100 100 100 in a row: the second one's context is 50, and so is the third one's.
            bits("000000000000 011001000 1 00 1 0", 100, 100, 100); // sum 4, count 2: k 1
            bits("000000000000 011001000 1 01 1 00", 100, 99, 99); // sum 5, count 2: k 2
            bits("000000000000 011001000 1 10 1 00", 100, 101, 101); // sum 5 as well
            bits("000000000000 011001000 01 00 1 00", 100, 102, 102); // sum 6
            bits("000000000000 011001000 001 01 1 000", 100, 95, 95); // sum 9, above 2 * 4: k 3
            bits("000000000000 011001000 01 11 1 00", 100, 96, 96); // sum 8, not above 2 * 4: k 2
        });
    }

    private static void bitsThatForget() {
        Expect.sentence("Mode 0", "when that is 16, it becomes 8", () -> {
            toldOfSlopes("when it is 15", 0, rules -> rules.fullCount = 15);
            toldOfSlopes("when it is 17", 0, rules -> rules.fullCount = 17);
            toldOfSlopes("it becomes 7", 0, rules -> rules.halfCount = 7);
            toldOfSlopes("it becomes 9", 0, rules -> rules.halfCount = 9);
        });
        Expect.sentence("Mode 0", "and the sum half of it (rounded down)", () ->
                toldOfSlopes("rounded up", 0, rules -> rules.halfRoundsUp = 1));
    }

    private static void lastByte() {
        Expect.sentence("Mode 0", "bits fill bytes; the last byte is filled up with bits 0", () -> {
            bits("100 10 10 1", 0, 0, 0, 0); // just 8 bits: no byte more
            bits("100 10 10 1 1", 0, 0, 0, 0, 0); // 9
            bits("100 10 10", 0, 0, 0); // 7
            told("with bits 1", 1, 3, rules -> rules.lastBits = "1111111", SMALL);
        });
    }

    private static void rangesOfOneValue() {
        Expect.sentence("Mode 1", "a value e: n is 0 .. 8", () -> {
            int[] edges = {0, 1, 2, 3, 4, 7, 8, 15, 16, 31, 32, 63, 64, 127, 128, 129, 254, 255, 256};
            for (int a : edges) {
                for (int sign = -1; sign <= 1; sign += 2) {
                    difference(sign * a);
                }
            }
        });
        Expect.sentence("Mode 1", "and a bit 0 with state 1 + n if n is below 8", () -> {
            rangesTold("below 7", 3, 4, rules -> rules.mostPower = 7, FAR);
            rangesTold("below 9", 3, 4, rules -> rules.mostPower = 9, FAR);
        });
        Expect.sentence("Mode 1", "bit i with state 10 + i; a bit 1 with state 18 for e below 0", () -> {
            rangesTold("state 8 + i", 3, 4, rules -> rules.firstDigitState = 8, MANY);
            rangesTold("state 11 + i", 3, 4, rules -> rules.firstDigitState = 11, MANY);
            rangesTold("state 17", 3, 4, rules -> rules.signState = 17, MANY);
            rangesTold("state 10", 1, 4, rules -> rules.signState = 10, MANY);
        });
    }

    /** Two places of which v1 differs so much from the guess; 256 is had from -255 to 1, as -256. */
    private static void difference(int e) {
        int first = e > 0 ? -255 : 255;
        int second = first + e;
        if (second < -255 || second > 255) {
            return;
        }
        int[][] green = {{Math.max(0, -first), Math.max(0, -second)}};
        int[][] blue = {{green[0][0] + first, green[0][1] + second}};
        for (int mode = 0; mode < 2; mode++) {
            Asides.both("difference " + e, Asides.picture(mode, 1, new int[][] {{0, 0}}, green, blue));
        }
    }

    private static void rangesTold(String what, int planes, int most, Consumer<Rules> turn, int... some) {
        Asides.told(what, Asides.among(1, planes, most, some), turn);
    }

    private static void rangesThatLearn() {
        Expect.sentence("Mode 1", "states, at first 128; range 65280", () -> {
            rangesTold("127", 1, 3, rules -> rules.firstState = 127, NEAR);
            rangesTold("129", 1, 3, rules -> rules.firstState = 129, NEAR);
            // A bit 0 rounds away what range lacks: only a picture of many 0 can tell.
            rangesTold("65279", 1, 6, rules -> rules.firstRange = 65279, 0, 0, 0, 0, 0, 0, 0, 0, 1);
            rangesTold("65281", 1, 3, rules -> rules.firstRange = 65281, NEAR);
            rangesTold("65535", 1, 3, rules -> rules.firstRange = 65535, NEAR);
        });
        Expect.sentence("Mode 1", "s grows by 256 - s >> 4", () -> {
            toldOfSlopes("by 255 - s >> 4", 1, rules -> rules.stateTop = 255);
            toldOfSlopes("by 257 - s >> 4", 1, rules -> rules.stateTop = 257);
            toldOfSlopes("by 256 - s >> 3", 1, rules -> rules.growShift = 3);
            toldOfSlopes("by 256 - s >> 5", 1, rules -> rules.growShift = 5);
        });
        Expect.sentence("Mode 1", "and s [falls] by s >> 4", () -> {
            toldOfSlopes("by s >> 3", 1, rules -> rules.fallShift = 3);
            toldOfSlopes("by s >> 5", 1, rules -> rules.fallShift = 5);
        });
        Expect.sentence("Mode 1", "while range is below 256, both become 256 times as great", () -> {
            rangesTold("below 255", 1, 6, rules -> rules.leastRange = 255, NEAR);
            rangesTold("below 257", 1, 6, rules -> rules.leastRange = 257, NEAR);
            rangesTold("below 257, other pictures", 1, 6, rules -> rules.leastRange = 257, MANY);
        });
    }

    private static void digits() {
        Expect.sentence("Mode 1", "two [digits] more than it was multiplied by 256", () -> {
            rangesTold("one more", 1, 3, rules -> rules.moreDigits = 1, NEAR);
            rangesTold("three more", 1, 3, rules -> rules.moreDigits = 3, NEAR);
            for (int length = 1; length <= 6; length++) {
                Asides.both("all 0", Asides.picture(1, 1, new int[length][1]));
                Asides.both("all 0", Asides.picture(1, 1, new int[6][length]));
            }
        });
        Expect.sentence("Block", "big 2 bytes: how many bytes the slice has; and two bytes: the check", () -> {
            int longest = 0;
            for (int n = 0; n < 200; n++) {
                DocModel.Picture picture = Asides.among(n % 2, 3, 6, FAR).apply(n);
                Asides.both("picture " + n, picture);
                longest = Math.max(longest, DocModel.blockOf(picture, 0).length);
            }
            Expect.yes("that some blocks are long", longest > 126);
        });
    }
}
