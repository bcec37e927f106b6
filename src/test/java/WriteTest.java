import java.util.Arrays;
import java.util.Random;
import java.util.Set;
import java.util.TreeSet;

/** Promise 8: write, by bytes worked out by hand and against the model of the document. */
public final class WriteTest {
    private static final Class<IllegalArgumentException> ARGUMENT = IllegalArgumentException.class;

    public static void main(String[] args) {
        byHand();
        refuses();
        replaces();
        sizesOfTwoBytes();
        extremes();
        againstModel();
        Expect.end();
    }

    private static int[] sliceOfOne(int sample, int mode) {
        FrameVault vault = new FrameVault();
        vault.frame(258);
        vault.set(0, 0, 0, 0, sample);
        int size = vault.write(mode, 1);
        int[] slice = new int[size - 33];
        int[] head = {26, 131, 66, 129, 1, 24, 128 + size - 7, 174, 140, 176, 129, 1, 186, 129, 1, 83, 129, 1,
            84, 129, 16 * mode + 1, 31, 128 + size - 23, 231, 130, 1, 2, 163, 128 + size - 29, 0, slice.length};
        for (int k = 0; k < head.length; k++) {
            Expect.same("byte " + k, vault.byteAt(k), head[k]);
        }
        for (int k = 0; k < slice.length; k++) {
            slice[k] = vault.byteAt(31 + k);
        }
        int check = vault.check(31, slice.length);
        Expect.same("check, high", vault.byteAt(size - 2), check >> 8);
        Expect.same("check, low", vault.byteAt(size - 1), check & 255);
        return slice;
    }

    private static void dueSlice(int sample, int mode, int... due) {
        int[] got = sliceOfOne(sample, mode);
        Expect.same("sample " + sample + ", mode " + mode, Arrays.toString(got),
                Arrays.toString(due));
    }

    private static void byHand() {
        FrameVault vault = new FrameVault();
        Expect.same("no frames", vault.write(1, 1), 21);
        int[] due = {26, 131, 66, 129, 1, 24, 142, 174, 140, 176, 129, 1, 186, 129, 1, 83, 129, 1, 84, 129, 17};
        for (int k = 0; k < due.length; k++) {
            Expect.same("no frames, byte " + k, vault.byteAt(k), due[k]);
        }
        dueSlice(0, 0, 0x80); // e 0: 1 00
        dueSlice(255, 0, 0xA0); // e -1: 1 01
        dueSlice(23, 0, 0x00, 0x18); // e 23, m 46: eleven 0, 1 10
        dueSlice(24, 0, 0x00, 0x01, 0x80); // e 24, m 48: twelve 0, 000110000
        dueSlice(128, 0, 0x00, 0x07, 0xF8); // e -128, m 255: twelve 0, 011111111
        dueSlice(0, 1, 0x7F, 0x80);
        dueSlice(255, 1, 0x1F, 0xE0); // 0 of 65280, 0 of 32640, 1 of 16320
    }

    private static FrameVault shaped(int width, int height) {
        FrameVault vault = new FrameVault();
        vault.shape(width, height, 1);
        vault.frame(3);
        vault.write(0, 1);
        vault.set(0, 0, width - 1, height - 1, 99);
        return vault;
    }

    private static void refuses() {
        int[][] bad = {{-1, 1}, {2, 1}, {0, 0}, {0, -1}, {0, 3}, {1, 3}, {0, 4}, {2, 4},
            {Integer.MIN_VALUE, 1}, {1, Integer.MAX_VALUE}};
        for (int[] b : bad) {
            Expect.refused(() -> shaped(2, 2), "write " + b[0] + " " + b[1], ARGUMENT, v -> v.write(b[0], b[1]));
        }
        Expect.refused(() -> shaped(1, 6), "four slices of six rows", ARGUMENT, v -> v.write(0, 4));
        Expect.refused(() -> shaped(6, 1), "two slices of one row", ARGUMENT, v -> v.write(1, 2));
        FrameVault vault = new FrameVault();
        vault.shape(1, 3, 1);
        Expect.same("three slices of three rows", vault.write(0, 3), 21);
    }

    private static void replaces() {
        FrameVault vault = new FrameVault();
        vault.type(-1L, 8);
        vault.frame(1);
        Expect.same("first", vault.write(0, 1), 34);
        String picture = Expect.stateOf(vault);
        Expect.same("again", vault.write(0, 1), 34);
        Expect.same("the same", Expect.stateOf(vault), picture);
        vault.shape(1, 1, 1);
        Expect.same("shorter", vault.write(0, 1), 21);
        Expect.same("size", vault.size(), 21);
    }

    /** An element of 126 bytes has a size of one byte, one of 127 has a size of two. */
    private static void sizesOfTwoBytes() {
        Set<Integer> blocks = new TreeSet<>(Arrays.asList(126, 127));
        Set<Integer> bodies = new TreeSet<>(Arrays.asList(126, 127, 255, 256, 511, 512));
        Random random = new Random(5);
        for (int n = 0; n < 20000 && !(blocks.isEmpty() && bodies.isEmpty()); n++) {
            DocModel.Picture picture = new DocModel.Picture();
            picture.width = 6;
            picture.height = 6;
            picture.planes = 3;
            picture.mode = n % 2;
            for (int frame = 0; frame <= n % 3; frame++) {
                fill(picture.add(frame), random, 1 + random.nextInt(256));
            }
            int[] due = DocModel.fileOf(picture);
            int body = due.length - (due[6] < 128 ? 8 : 7);
            if (bodies.remove(body) | blocks.remove(DocModel.blockOf(picture, 0).length)) {
                compare(picture);
            }
        }
        Expect.yes("all sizes were met but " + blocks + bodies, blocks.isEmpty() && bodies.isEmpty());
    }

    private static void compare(DocModel.Picture picture) {
        String what = picture.width + "x" + picture.height + "x" + picture.planes + " mode " + picture.mode
                + " slices " + picture.slices;
        int[] due = DocModel.fileOf(picture);
        FrameVault vault = Vaults.withPicture(picture);
        Expect.same(what, vault.write(picture.mode, picture.slices), due.length);
        Vaults.hasFile(what, vault, due);
    }

    /** Samples near one another; near 0 rather often, since a slice begins with a guess of 0. */
    static void fill(int[][][] samples, Random random, int spread) {
        int base = random.nextInt(3) == 0 ? 0 : random.nextInt(256);
        for (int[][] plane : samples) {
            for (int[] row : plane) {
                for (int x = 0; x < row.length; x++) {
                    row[x] = base + random.nextInt(spread) & 255;
                }
            }
        }
    }

    /** Samples 0 and 255 alone give the greatest differences, all that M / 2 is about among them. */
    private static void extremes() {
        Random random = new Random(6);
        for (int n = 0; n < 200; n++) {
            DocModel.Picture picture = new DocModel.Picture();
            picture.width = 1 + random.nextInt(6);
            picture.height = 1 + random.nextInt(6);
            picture.planes = 3;
            picture.mode = n % 2;
            picture.slices = 1 + random.nextInt(Math.min(3, picture.height));
            int[] some = n % 4 < 2 ? new int[] {0, 255} : new int[] {0, 127, 128, 255};
            for (int[][] plane : picture.add(n)) {
                for (int[] row : plane) {
                    for (int x = 0; x < row.length; x++) {
                        row[x] = some[random.nextInt(some.length)];
                    }
                }
            }
            compare(picture);
        }
    }

    private static void againstModel() {
        Random random = new Random(7);
        for (int n = 0; n < 600; n++) {
            DocModel.Picture picture = new DocModel.Picture();
            picture.width = 1 + random.nextInt(6);
            picture.height = 1 + random.nextInt(6);
            picture.planes = random.nextBoolean() ? 1 : 3;
            picture.mode = random.nextInt(2);
            picture.slices = 1 + random.nextInt(Math.min(3, picture.height));
            int time = random.nextInt(3);
            int frames = random.nextInt(4);
            for (int frame = 0; frame < frames; frame++) {
                fill(picture.add(time), random, 1 + random.nextInt(n % 3 == 0 ? 256 : 12));
                time += 1 + random.nextInt(20000);
            }
            compare(picture);
        }
    }
}
