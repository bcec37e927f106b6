import java.util.Arrays;
import java.util.Random;

/** The edges of what a block may have: the size of a slice, its check, its bytes. */
public final class EdgesOfSlicesTest {
    private static final int NONE = FrameVault.NONE;
    private static final int BLOCK_AT = 29;

    public static void main(String[] args) {
        sliceSizes();
        sliceSizesFar();
        checks();
        order();
        slicesThatMustEnd();
        for (int mode = 0; mode < 2; mode++) {
            bytesOneStepOff(mode);
            lengthsOneStepOff(mode);
            noSamples(mode);
            noSamplesAtTheEnd(mode);
        }
        bitsThatNoValueHas();
        rangesThatNoValueHas();
        Expect.end();
    }

    private static int[] b(int... bytes) {
        return bytes;
    }

    /** A file with one frame that has this block, and what reading it must answer. */
    private static void due(String what, int place, int width, int height, int planes, int coding, int[]... parts) {
        Node block = new Node(163, DocModel.join(parts));
        Node track = Node.of(174, new Node(176, width), new Node(186, height), new Node(83, planes), new Node(84, coding));
        Node file = Node.of(Node.NO_ID, Node.of(26, new Node(66, 1)),
                Node.of(24, track, Node.of(31, new Node(231, 1, 2), block)));
        int[] bytes = file.laid(0);
        int at = place == NONE ? NONE : place + block.at;
        FrameVault vault = Vaults.withFile(bytes);
        vault.frame(65535);
        String before = Expect.stateOf(vault);
        Expect.same(what, vault.read(), at);
        if (place != NONE) {
            Expect.same(what + ": what stays", Expect.stateOf(vault), before);
        }
        if (bytes.length < 500) {
            Expect.yes("the block is where it is thought to be", bytes.length > 128 || block.at == BLOCK_AT);
            Expect.same(what + ": the model", DocModel.read(bytes, new DocModel.Picture[1]), at);
        }
    }

    /** One place with sample 0 in mode 0; here places are told from the start of the block. */
    private static void dot(String what, int place, int[]... parts) {
        due(what, place, 1, 1, 1, 1, parts);
    }

    private static void twoDots(String what, int place, int[]... parts) {
        due(what, place, 1, 2, 1, 2, parts);
    }

    private static final int[] ZERO = DocModel.sealed(b(0x80));

    private static void sliceSizes() {
        Expect.sentence("To read", "the size of a slice, which must leave room for its check", () -> {
            int[] bytes = {0, 0, 0x80, ZERO[3], ZERO[4]};
            for (int size = 0; size <= 300; size++) {
                bytes[0] = size >> 8;
                bytes[1] = size & 255;
                // 0: the check would be the slice's byte and half the check; 1 is right; from 2 on there is no room.
                dot("size " + size + " of five bytes", size == 0 ? 2 : size == 1 ? NONE : 0, bytes);
            }
            for (int many = 0; many < ZERO.length; many++) {
                dot("the first " + many + " of five bytes", 0, Arrays.copyOf(ZERO, many));
            }
            dot("no bytes, no check", 0, b(0, 0));
            dot("no bytes, half a check", 0, b(0, 0, 255));
            dot("no bytes, a check: the slice is wrong", 2, b(0, 0, 255, 255));
            dot("no bytes, a wrong check", 2, b(0, 0, 255, 254));
        });
        Expect.sentence("To read", "the size of a second slice", () -> {
            twoDots("two slices", NONE, ZERO, ZERO);
            for (int many = 0; many < ZERO.length; many++) {
                twoDots("the first " + many + " bytes of it", 5, ZERO, Arrays.copyOf(ZERO, many));
            }
            twoDots("one too long", 5, ZERO, b(0, 2, 0x80), Arrays.copyOfRange(ZERO, 3, 5));
            twoDots("one too short", 7, ZERO, b(0, 0, 0x80), Arrays.copyOfRange(ZERO, 3, 5));
            twoDots("the first one takes all", 2, DocModel.sealed(DocModel.join(b(0x80), new int[5])));
            int[] five = {0, 6, 0x80, ZERO[3], ZERO[4], 0, 1, 0x80, ZERO[3], ZERO[4]};
            int check = DocModel.checkOf(Arrays.copyOfRange(five, 2, 8));
            five[8] = check >> 8;
            five[9] = check & 255;
            twoDots("the first one leaves room for its own check alone: its bytes are wrong", 2, five);
            five[9] ^= 1;
            twoDots("and a wrong check", 8, five);
            five[1] = 7;
            twoDots("and no room for the check", 0, five);
        });
    }

    private static void sliceSizesFar() {
        Expect.sentence("Block", "big 2 bytes: how many bytes the slice has", () -> {
            for (int many : new int[] {255, 256, 257, 511, 512, 1024, 1100}) {
                int[] slice = new int[many];
                Arrays.fill(slice, 0x5A);
                int[] sealed = DocModel.sealed(slice);
                dot("a slice of " + many, 2, sealed);
                sealed[many + 3] ^= 1;
                dot("a slice of " + many + " with a wrong check", many + 2, sealed);
                sealed[1]++;
                sealed[0] += sealed[1] >> 8;
                sealed[1] &= 255;
                dot("a slice of one more", 0, sealed);
            }
            dot("65535 bytes", 0, b(255, 255), new int[1000]);
            dot("32768 bytes", 0, b(128, 0), new int[1000]);
        });
    }

    private static void checks() {
        Expect.sentence("To read", "the check", () -> {
            for (int step = 1; step < 65536; step = step < 256 ? step + 1 : step + 251) {
                int wrong = DocModel.checkOf(b(0x80)) + step & 65535;
                dot("a check " + step + " more", 3, b(0, 1, 0x80), DocModel.big(wrong));
            }
            for (int bit = 0; bit < 16; bit++) {
                int wrong = DocModel.checkOf(b(0x80)) ^ 1 << bit;
                dot("a check with another bit " + bit, 3, b(0, 1, 0x80), DocModel.big(wrong));
                twoDots("a second check with another bit " + bit, 8, ZERO, b(0, 1, 0x80), DocModel.big(wrong));
                twoDots("the first check is the fault", 3, b(0, 1, 0x80), DocModel.big(wrong), ZERO);
            }
            dot("little, not big", 3, b(0, 1, 0x80, ZERO[4], ZERO[3]));
            dot("with the size", 3, b(0, 1, 0x80), DocModel.big(DocModel.checkOf(b(0, 1, 0x80))));
        });
    }

    private static void order() {
        Expect.sentence("To read", "of a slice the size is looked at, then the check, then the bytes", () -> {
            dot("size, check and bytes", 0, b(0, 9, 0x81, 1, 2));
            dot("check and bytes", 3, b(0, 1, 0x81, 1, 2));
            dot("bytes", 2, DocModel.sealed(b(0x81)));
            twoDots("the first one's bytes, the second one's size", 2, DocModel.sealed(b(0x81)), b(0, 9, 0, 0, 0));
            twoDots("the first one's check, the second one's size", 3, b(0, 1, 0x80, 1, 2), b(0, 9, 0, 0, 0));
            twoDots("the second one's size, a byte more", 5, ZERO, b(0, 9, 0, 0, 0, 0));
            twoDots("the second one's bytes", 7, ZERO, DocModel.sealed(b(0x81)));
            twoDots("the second one's bytes, and more behind it", 7, ZERO, DocModel.sealed(b(0x81)), ZERO);
        });
    }

    private static void slicesThatMustEnd() {
        Expect.sentence("To read", "where [a block] must end but does not", () -> {
            dot("a byte more", 5, ZERO, b(0));
            dot("a slice more", 5, ZERO, ZERO);
            dot("a gap more", 5, ZERO, b(236, 128));
            twoDots("a byte more", 10, ZERO, ZERO, b(0));
            twoDots("a slice more", 10, ZERO, ZERO, ZERO);
            due("two slices of three", 10, 1, 3, 1, 3, ZERO, ZERO);
            due("three slices of three", NONE, 1, 3, 1, 3, ZERO, ZERO, ZERO);
            due("four slices of three", 15, 1, 3, 1, 3, ZERO, ZERO, ZERO, ZERO);
        });
    }

    private static int[] someSlice(int mode, int n, int[] shape) {
        DocModel.Picture picture = Asides.among(mode, n % 4 == 0 ? 3 : 1, 3, 0, 1, 4, 5, 100, 128, 255).apply(n);
        shape[0] = picture.width;
        shape[1] = picture.height;
        shape[2] = picture.planes;
        return DocModel.sliceOf(picture.samples.get(0), mode, 0, picture.height);
    }

    private static void sliceDue(String what, int mode, int[] shape, int[] slice) {
        int[][][] samples = new int[shape[2]][shape[1]][shape[0]];
        boolean good = DocModel.findSamples(slice, samples, mode, 0, shape[1]);
        due(what, good ? NONE : 2, shape[0], shape[1], shape[2], 16 * mode + 1, DocModel.sealed(slice));
    }

    private static void bytesOneStepOff(int mode) {
        Expect.sentence("To read", "the slice, when its bytes are not just those that writing gives", () -> {
            int[] shape = new int[3];
            for (int n = 0; n < 24; n++) {
                int[] slice = someSlice(mode, n, shape);
                due("as it is written", NONE, shape[0], shape[1], shape[2], 16 * mode + 1, DocModel.sealed(slice));
                for (int k = 0; k < slice.length; k++) {
                    for (int step : new int[] {-1, 1, 128}) {
                        int[] off = slice.clone();
                        off[k] = off[k] + step & 255;
                        sliceDue("byte " + k + " of picture " + n + ", " + step + " off", mode, shape, off);
                    }
                }
            }
        });
    }

    private static void lengthsOneStepOff(int mode) {
        Expect.sentence("To read", "not just those: a byte too many, a byte too few", () -> {
            int[] shape = new int[3];
            for (int n = 0; n < 60; n++) {
                int[] slice = someSlice(mode, n, shape);
                int coding = 16 * mode + 1;
                for (int more : new int[] {0, 1, 128, 255}) {
                    due("a byte more", 2, shape[0], shape[1], shape[2], coding,
                            DocModel.sealed(DocModel.join(slice, b(more))));
                    sliceDue("a byte before", mode, shape, DocModel.join(b(more), slice));
                }
                due("a byte less", 2, shape[0], shape[1], shape[2], coding,
                        DocModel.sealed(Arrays.copyOf(slice, slice.length - 1)));
                due("none", 2, shape[0], shape[1], shape[2], coding, DocModel.sealed(b()));
            }
        });
    }

    private static boolean isSample(int v) {
        return v >= 0 && v <= 255;
    }

    private static boolean areSamples(int v0, int v1, int v2) {
        int g = v0 - Math.floorDiv(v1 + v2, 4);
        return isSample(g) && isSample(g + v1) && isSample(g + v2);
    }

    /** The edges of r, g and b are met one by one: each as the only one that is -1, 0, 255 or 256. */
    private static void noSamples(int mode) {
        Expect.sentence("To read", "those that writing gives for some samples: values that no samples have", () -> {
            int[] others = {-256, -255, -254, -200, -128, -5, -4, -3, -1, 0, 1, 2, 3, 4, 100, 127, 128, 254, 255};
            boolean[] met = new boolean[12];
            for (int v1 : others) {
                for (int v2 : others) {
                    for (int v0 = 0; v0 < 256; v0 += nearEdge(v0, v1, v2) ? 1 : 17) {
                        DocModel.Pen pen = new DocModel.Pen(mode);
                        pen.put(0, v0 > 127 ? v0 - 256 : v0);
                        pen.put(63, v1);
                        pen.put(63, v2);
                        boolean good = areSamples(v0, v1, v2);
                        meet(met, v0, v1, v2);
                        FrameVault vault = Vaults.withFile(oneColour(mode, pen.bytes()));
                        Expect.same("values " + v0 + " " + v1 + " " + v2, vault.read(), good ? NONE : BLOCK_AT + 2);
                    }
                }
            }
            for (int k = 0; k < met.length; k++) {
                Expect.yes("that edge " + k + " was met alone", met[k]);
            }
        });
    }

    /** Whether one of the samples is near 0 or 255. */
    private static boolean nearEdge(int v0, int v1, int v2) {
        int g = v0 - Math.floorDiv(v1 + v2, 4);
        boolean near = false;
        for (int sample : new int[] {g + v2, g, g + v1}) {
            near |= Math.abs(sample) <= 18 || Math.abs(sample - 255) <= 18;
        }
        return near;
    }

    private static void meet(boolean[] met, int v0, int v1, int v2) {
        int g = v0 - Math.floorDiv(v1 + v2, 4);
        int[] samples = {g + v2, g, g + v1};
        int[] edges = {-1, 0, 255, 256};
        for (int k = 0; k < 12; k++) {
            boolean others = isSample(samples[(k / 4 + 1) % 3]) && isSample(samples[(k / 4 + 2) % 3]);
            met[k] |= others && samples[k / 4] == edges[k % 4];
        }
    }

    private static int[] oneColour(int mode, int[] slice) {
        int[] track = DocModel.element(174, DocModel.element(176, b(1)), DocModel.element(186, b(1)),
                DocModel.element(83, b(3)), DocModel.element(84, b(16 * mode + 1)));
        int[] frame = DocModel.element(31, DocModel.element(231, b(0, 9)), DocModel.element(163, DocModel.sealed(slice)));
        return DocModel.join(DocModel.element(26, DocModel.element(66, b(1))), DocModel.element(24, track, frame));
    }

    /** One place of many is wrong: the first, the last, one in the middle, or none. */
    private static void noSamplesAtTheEnd(int mode) {
        Expect.sentence("To read", "values that no samples have, at one place of many", () -> {
            Random random = new Random(3);
            for (int wrong = -1; wrong < 6; wrong++) {
                for (int n = 0; n < 6; n++) {
                    int[][][] samples = new int[3][2][3];
                    for (int k = 0; k < 18; k++) {
                        samples[k / 6][k / 3 % 2][k % 3] = random.nextInt(256);
                    }
                    if (wrong >= 0) {
                        // Blue 256 and -1 still give values within their ranges: 256 - 1 and -1 - 0.
                        samples[0][wrong / 3][wrong % 3] = n % 2 == 0 ? 1 : 9;
                        samples[1][wrong / 3][wrong % 3] = n % 2 == 0 ? 1 : 0;
                        samples[2][wrong / 3][wrong % 3] = n % 2 == 0 ? 256 : -1;
                    }
                    int[] slice = DocModel.sliceOf(samples, mode, 0, 2);
                    due("wrong at " + wrong, wrong < 0 ? NONE : 2, 3, 2, 3, 16 * mode + 1, DocModel.sealed(slice));
                }
            }
        });
    }

    private static void bitsThatNoValueHas() {
        Expect.sentence("Mode 0", "what is not written so is no slice", () -> {
            dot("e 0", NONE, DocModel.sealed(b(0x80)));
            for (int low = 1; low < 32; low++) {
                dot("bits 1 at the end", 2, DocModel.sealed(b(0x80 + low)));
            }
            // m 44 .. 47 are the greatest of less than 12 bits 0; the long form of less than 48 is not written.
            dot("m 47 in short", NONE, DocModel.sealed(b(0, 0x1C)));
            dot("m 47 in long", 2, DocModel.sealed(b(0, 0x01, 0x78)));
            dot("m 48 in long", NONE, DocModel.sealed(b(0, 0x01, 0x80)));
            dot("m 0 in long", 2, DocModel.sealed(b(0, 0, 0)));
            dot("m 255 in long", NONE, DocModel.sealed(b(0, 0x07, 0xF8)));
            dot("m 256 in long: e is 128", 2, DocModel.sealed(b(0, 0x08, 0)));
            dot("m 257 in long: e is -129", 2, DocModel.sealed(b(0, 0x08, 0x08)));
            dot("m 511 in long", 2, DocModel.sealed(b(0, 0x0F, 0xF8)));
            dot("12 bits 0 and no more", 2, DocModel.sealed(b(0, 0)));
            dot("13 bits 0, as if 48 were short", 2, DocModel.sealed(b(0, 0x08)));
        });
    }

    private static void rangesThatNoValueHas() {
        Expect.sentence("Mode 1", "what is not written so is no slice", () -> {
            // e 0: low is 32640, the digits 0x7F 0x80; all others within its part are no slice.
            for (int number : new int[] {0x7F7F, 0x7F80, 0x7F81, 0x8000, 0xFEFF, 0xFF00, 0xFF01, 0xFFFF, 0, 1}) {
                int[] slice = DocModel.big(number);
                boolean good = DocModel.findSamples(slice, new int[1][1][1], 1, 0, 1);
                Expect.yes("what is known of " + number, good == (number == 0x7F80) || number < 0x7F80);
                due("digits " + number, good ? NONE : 2, 1, 1, 1, 17, DocModel.sealed(slice));
            }
            for (int high = 0; high < 256; high++) {
                due("a digit alone", 2, 1, 1, 1, 17, DocModel.sealed(b(high)));
            }
        });
    }
}
