import java.util.Arrays;
import java.util.Random;
import java.util.Set;
import java.util.TreeSet;
import java.util.function.Supplier;

/** The edges of promise 8: what may be written, in place of what, and how the elements are laid. */
public final class EdgesOfWritingTest {
    private static final Class<IllegalArgumentException> ARGUMENT = IllegalArgumentException.class;

    public static void main(String[] args) {
        modes();
        slices();
        frames();
        times();
        replaces();
        staysAsItIs();
        sizesOfElements();
        sizesAside();
        greatest();
        Expect.end();
    }

    /** A vault of this height with a file and a frame that is not in it. */
    private static Supplier<FrameVault> high(int height) {
        return () -> {
            FrameVault vault = new FrameVault();
            vault.shape(2, height, 1);
            vault.frame(5);
            vault.write(0, 1);
            vault.set(0, 0, 1, height - 1, 255);
            vault.frame(6);
            return vault;
        };
    }

    private static void modes() {
        Expect.sentence("8", "mode is not 0 or 1", () -> {
            for (int mode : new int[] {-2, -1, 0, 1, 2, 3, 16, 17, 256, 257, Integer.MIN_VALUE, Integer.MAX_VALUE}) {
                for (int slices = 1; slices <= 3; slices++) {
                    int n = slices;
                    Expect.takenIf(mode == 0 || mode == 1, high(3), "write(" + mode + ", " + n + ")", ARGUMENT,
                            v -> Expect.same("the coding", codingOf(v, v.write(mode, n)), 16 * mode + n));
                }
            }
        });
    }

    private static int codingOf(FrameVault vault, int size) {
        Expect.same("size", vault.size(), size);
        return vault.byteAt(20);
    }

    private static void slices() {
        Expect.sentence("8", "slices not 1 .. 3 or more than the height", () -> {
            for (int height = 1; height <= 6; height++) {
                for (int slices = -2; slices <= 8; slices++) {
                    for (int mode = 0; mode < 2; mode++) {
                        int m = mode;
                        int n = slices;
                        boolean may = n >= 1 && n <= 3 && n <= height;
                        Expect.takenIf(may, high(height), "height " + height + ", slices " + n, ARGUMENT,
                                v -> Expect.same("the coding", codingOf(v, v.write(m, n)), 16 * m + n));
                    }
                }
                for (int far : new int[] {Integer.MIN_VALUE, -65535, 257, 65537, Integer.MAX_VALUE}) {
                    Expect.refused(high(height), "slices " + far, ARGUMENT, v -> v.write(0, far));
                }
            }
            Expect.refused(FrameVault::new, "two slices of the first shape", ARGUMENT, v -> v.write(0, 2));
            Expect.taken(FrameVault::new, "one slice of the first shape", 21, v -> v.write(0, 1));
        });
        Expect.sentence("8", "both are wrong", () -> {
            Expect.refused(high(2), "write(2, 3)", ARGUMENT, v -> v.write(2, 3));
            Expect.refused(high(2), "write(-1, 0)", ARGUMENT, v -> v.write(-1, 0));
        });
    }

    private static void frames() {
        Expect.sentence("8", "writes the shape and all frames (perhaps none)", () -> {
            for (int width = 1; width <= 6; width++) {
                for (int height = 1; height <= 6; height++) {
                    for (int planes = 1; planes <= 3; planes += 2) {
                        FrameVault vault = new FrameVault();
                        vault.shape(width, height, planes);
                        Expect.same("how many bytes", vault.write(1, 1), 21);
                        int[] due = {26, 131, 66, 129, 1, 24, 142, 174, 140, 176, 129, width, 186, 129, height, 83, 129,
                            planes, 84, 129, 17};
                        Vaults.hasFile("no frames", vault, due);
                    }
                }
            }
            for (int frames = 0; frames <= 3; frames++) {
                FrameVault vault = new FrameVault();
                int[] due = {26, 131, 66, 129, 1, 24, 142 + 13 * frames, 174, 140, 176, 129, 1, 186, 129, 1, 83, 129, 1, 84,
                    129, 1};
                for (int frame = 0; frame < frames; frame++) {
                    vault.frame(frame + 7);
                    int[] more = {31, 139, 231, 130, 0, frame + 7, 163, 133, 0, 1, 0x80};
                    due = DocModel.join(due, more, DocModel.big(DocModel.checkOf(new int[] {0x80})));
                }
                Expect.same("how many bytes", vault.write(0, 1), due.length);
                Vaults.hasFile(frames + " frames", vault, due);
            }
        });
    }

    private static void times() {
        Expect.sentence("Elements", "element 231: big 2, the time", () -> {
            for (int time : new int[] {0, 1, 127, 128, 255, 256, 257, 32767, 32768, 65279, 65280, 65534, 65535}) {
                FrameVault vault = new FrameVault();
                vault.frame(time);
                vault.write(0, 1);
                Expect.same("its size, for " + time, vault.byteAt(24), 130);
                Expect.same("its first byte, for " + time, vault.byteAt(25), time / 256);
                Expect.same("its second byte, for " + time, vault.byteAt(26), time % 256);
                Expect.same("read", vault.read(), FrameVault.NONE);
                Expect.same("time", vault.time(0), time);
            }
        });
    }

    private static void replaces() {
        Expect.sentence("8", "in place of what was there", () -> {
            FrameVault first = new FrameVault();
            first.frame(3);
            first.write(0, 1);
            int[] due = new int[first.size()];
            for (int k = 0; k < due.length; k++) {
                due[k] = first.byteAt(k);
            }
            for (int many : new int[] {0, 1, 33, 34, 35, 1199, 1200}) {
                int[] before = new int[many];
                Arrays.fill(before, 170);
                FrameVault vault = Vaults.withFile(before);
                vault.frame(3);
                Expect.same("how many bytes", vault.write(0, 1), 34);
                Vaults.hasFile("instead of " + many, vault, due);
                Expect.same("room behind it", vault.type(-1L, 8), 42);
                Expect.same("write again", vault.write(0, 1), 34);
                Vaults.hasFile("again", vault, due);
            }
        });
        Expect.sentence("8", "a refused write keeps the file", () -> {
            for (int many : new int[] {0, 1, 21, 1200}) {
                Expect.refused(() -> Vaults.withFile(new int[many]), "write(2, 1)", ARGUMENT, v -> v.write(2, 1));
                Expect.refused(() -> Vaults.withFile(new int[many]), "write(0, 2)", ARGUMENT, v -> v.write(0, 2));
            }
        });
    }

    private static void staysAsItIs() {
        Expect.sentence("8", "the shape and the frames stay", () -> {
            for (int mode = 0; mode < 2; mode++) {
                for (int slices = 1; slices <= 3; slices++) {
                    FrameVault vault = new FrameVault();
                    vault.shape(3, 3, 3);
                    vault.frame(0);
                    vault.frame(65535);
                    for (int k = 0; k < 54; k++) {
                        vault.set(k / 27, k / 9 % 3, k % 3, k / 3 % 3, k * 83 & 255);
                    }
                    String before = Expect.stateOf(vault);
                    String pictures = before.substring(before.indexOf(" 3 3 3"));
                    vault.write(mode, slices);
                    String after = Expect.stateOf(vault);
                    Expect.same("after write", after.substring(after.indexOf(" 3 3 3")), pictures);
                    vault.read();
                    Expect.same("after read", Expect.stateOf(vault), after);
                }
            }
        });
    }

    /** Draws greater and greater pictures until all sizes about the edges were met, in blocks, frames and body. */
    private static void sizesOfElements() {
        Expect.sentence("Elements", "when it is written it is one byte if it can be", () -> {
            Set<Integer> blocks = new TreeSet<>(Arrays.asList(125, 126, 127, 128));
            Set<Integer> frames = new TreeSet<>(Arrays.asList(125, 126, 127, 128));
            Set<Integer> bodies = new TreeSet<>(Arrays.asList(125, 126, 127, 128, 255, 256, 257, 511, 512, 513));
            Random random = new Random(11);
            for (int n = 0; n < 20000 && !(blocks.isEmpty() && frames.isEmpty() && bodies.isEmpty()); n++) {
                DocModel.Picture picture = great(random, n % 2, 1 + n % 3);
                int block = DocModel.blockOf(picture, 0).length;
                int frame = block + (block > 126 ? 3 : 2) + 4;
                int[] due = DocModel.fileOf(picture);
                int body = due.length - (due[6] < 128 ? 8 : 7);
                if (blocks.remove(block) | frames.remove(frame) | bodies.remove(body)) {
                    Asides.both("block " + block + ", frame " + frame + ", body " + body, picture);
                }
            }
            Expect.yes("all sizes were met but " + blocks + frames + bodies,
                    blocks.isEmpty() && frames.isEmpty() && bodies.isEmpty());
        });
    }

    private static DocModel.Picture great(Random random, int mode, int frames) {
        DocModel.Picture picture = new DocModel.Picture();
        picture.width = 4 + random.nextInt(3);
        picture.height = 4 + random.nextInt(3);
        picture.planes = 3;
        picture.mode = mode;
        picture.slices = 1 + random.nextInt(3);
        for (int frame = 0; frame < frames; frame++) {
            WriteTest.fill(picture.add(frame), random, 1 + random.nextInt(256));
        }
        return picture;
    }

    private static void sizesAside() {
        Expect.sentence("Elements", "one byte 128 + size (size up to 126)", () -> {
            for (int mode = 0; mode < 2; mode++) {
                int m = mode;
                Asides.told("up to 125", n -> great(new Random(n), m, 1), rules -> rules.mostInOneByte = 125);
                Asides.told("up to 127", n -> great(new Random(n), m, 1), rules -> rules.mostInOneByte = 127);
            }
        });
    }

    /**
     * No file can have more than 1200 bytes: a value has at most 21 bits in mode 0, 108 of them 284
     * bytes. So the greatest that are found must be written.
     */
    private static void greatest() {
        Expect.sentence("8", "IllegalStateException: it would have more than 1200", () -> {
            Random random = new Random(12);
            int most = 0;
            for (int n = 0; n < 60; n++) {
                DocModel.Picture picture = new DocModel.Picture();
                picture.width = 6;
                picture.height = 6;
                picture.planes = 3;
                picture.mode = n % 2;
                picture.slices = 3;
                for (int frame = 0; frame < 3; frame++) {
                    for (int[][] plane : picture.add(frame + 65533)) {
                        for (int k = 0; k < 36; k++) {
                            plane[k / 6][k % 6] = random.nextInt(256);
                        }
                    }
                }
                Asides.both("three great frames", picture);
                most = Math.max(most, DocModel.fileOf(picture).length);
            }
            Expect.yes("that they are great: " + most, most > 500);
        });
    }
}
