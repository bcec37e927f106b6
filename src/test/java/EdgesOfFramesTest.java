import java.util.function.Supplier;

/** The edges of promises 1 to 7, sentence by sentence: shape, frames, times, samples. */
public final class EdgesOfFramesTest {
    private static final Class<IllegalArgumentException> ARGUMENT = IllegalArgumentException.class;
    private static final Class<IllegalStateException> STATE = IllegalStateException.class;
    private static final Class<IndexOutOfBoundsException> INDEX = IndexOutOfBoundsException.class;
    /** What is far away, and what comes back into the range when it is cut to fewer bits. */
    private static final int[] FAR = {Integer.MIN_VALUE, Integer.MIN_VALUE + 1, -65536, -256, 256, 257, 259, 65536 + 1,
        1 << 24, Integer.MAX_VALUE - 1, Integer.MAX_VALUE};

    public static void main(String[] args) {
        promise1();
        promise2();
        promise2Frames();
        promise3();
        promise3Times();
        promise3Full();
        promise4();
        promise5();
        promise6();
        promise7();
        Expect.end();
    }

    /** A vault with this shape and so many frames, at the times 10, 20, 30. */
    private static Supplier<FrameVault> vault(int width, int height, int planes, int frames) {
        return () -> {
            FrameVault vault = new FrameVault();
            vault.shape(width, height, planes);
            for (int frame = 0; frame < frames; frame++) {
                vault.frame(10 * frame + 10);
            }
            return vault;
        };
    }

    private static Supplier<FrameVault> timed(int... times) {
        return () -> {
            FrameVault vault = new FrameVault();
            for (int time : times) {
                vault.frame(time);
            }
            return vault;
        };
    }

    /** A vault that has something of everything that a refused call could change. */
    private static FrameVault rich() {
        FrameVault vault = vault(2, 2, 3, 2).get();
        vault.set(1, 2, 1, 1, 255);
        vault.set(0, 0, 0, 0, 1);
        vault.write(1, 2);
        vault.poke(3, 77);
        return vault;
    }

    private static void promise1() {
        Expect.sentence("1", "the first shape", () -> {
            Expect.taken(FrameVault::new, "about(1)", 1, v -> v.about(1));
            Expect.taken(FrameVault::new, "about(2)", 1, v -> v.about(2));
            Expect.taken(FrameVault::new, "about(3)", 1, v -> v.about(3));
            Expect.taken(timed(0), "the only place", 0, v -> v.get(0, 0, 0, 0));
            Expect.refused(timed(0), "a second column", INDEX, v -> v.get(0, 0, 1, 0));
            Expect.refused(timed(0), "a second row", INDEX, v -> v.get(0, 0, 0, 1));
            Expect.refused(timed(0), "a second plane", INDEX, v -> v.get(0, 1, 0, 0));
        });
        Expect.sentence("1", "no frames", () -> {
            Expect.taken(FrameVault::new, "about(0)", 0, v -> v.about(0));
            Expect.refused(FrameVault::new, "time(0)", INDEX, v -> v.time(0));
            Expect.refused(FrameVault::new, "get", INDEX, v -> v.get(0, 0, 0, 0));
            Expect.refused(FrameVault::new, "set", INDEX, v -> v.set(0, 0, 0, 0, 0));
            Expect.taken(FrameVault::new, "the first frame", 0, v -> v.frame(0));
        });
        Expect.sentence("1", "no file", () -> {
            Expect.taken(FrameVault::new, "size()", 0, v -> v.size());
            Expect.taken(FrameVault::new, "read()", 0, v -> v.read());
            Expect.taken(FrameVault::new, "check(0, 0)", 65535, v -> v.check(0, 0));
            Expect.refused(FrameVault::new, "byteAt(0)", INDEX, v -> v.byteAt(0));
            Expect.refused(FrameVault::new, "poke(0, 0)", INDEX, v -> v.poke(0, 0));
            Expect.refused(FrameVault::new, "check(0, 1)", INDEX, v -> v.check(0, 1));
            Expect.refused(FrameVault::new, "cut(1)", ARGUMENT, v -> v.cut(1));
        });
        Expect.sentence("1", "a new object has nothing of another", () -> {
            FrameVault other = rich();
            Expect.same("the new one", Expect.stateOf(new FrameVault()), "file 0 65535 1 1 1");
            Expect.same("the other one", Expect.stateOf(other), Expect.stateOf(rich()));
        });
    }

    private static void shapeTaken(int width, int height, int planes, boolean may) {
        String what = "shape(" + width + ", " + height + ", " + planes + ")";
        Expect.takenIf(may, EdgesOfFramesTest::rich, what, ARGUMENT, v -> {
            v.shape(width, height, planes);
            Expect.same(what + ": frames", v.about(0), 0);
            Expect.same(what + ": width", v.about(1), width);
            Expect.same(what + ": height", v.about(2), height);
            Expect.same(what + ": planes", v.about(3), planes);
        });
    }

    private static void promise2() {
        Expect.sentence("2", "width is not 1 .. 6", () -> {
            for (int width = -2; width <= 9; width++) {
                shapeTaken(width, 3, 1, width >= 1 && width <= 6);
                shapeTaken(width, 6, 3, width >= 1 && width <= 6);
            }
            for (int width : FAR) {
                shapeTaken(width, 1, 1, false);
            }
        });
        Expect.sentence("2", "height is not 1 .. 6", () -> {
            for (int height = -2; height <= 9; height++) {
                shapeTaken(3, height, 1, height >= 1 && height <= 6);
                shapeTaken(6, height, 3, height >= 1 && height <= 6);
            }
            for (int height : FAR) {
                shapeTaken(1, height, 1, false);
            }
        });
        Expect.sentence("2", "planes not 1 or 3", () -> {
            for (int planes = -3; planes <= 7; planes++) {
                shapeTaken(1, 1, planes, planes == 1 || planes == 3);
                shapeTaken(6, 6, planes, planes == 1 || planes == 3);
            }
            for (int planes : FAR) {
                shapeTaken(2, 2, planes, false);
            }
        });
        Expect.sentence("2", "one wrong number is enough", () -> {
            shapeTaken(0, 0, 1, false);
            shapeTaken(7, 7, 3, false);
            shapeTaken(0, 7, 2, false);
            shapeTaken(7, 0, 0, false);
        });
    }

    private static void promise2Frames() {
        Expect.sentence("2", "a shape, without frames (also if it is the same one)", () -> {
            int[][] shapes = {{2, 2, 3}, {2, 2, 1}, {2, 3, 3}, {6, 6, 3}, {1, 1, 1}};
            for (int[] s : shapes) {
                FrameVault vault = rich();
                vault.shape(s[0], s[1], s[2]);
                Expect.same("frames", vault.about(0), 0);
                Expect.refused(() -> vault, "time(0)", INDEX, v -> v.time(0));
                Expect.refused(() -> vault, "get", INDEX, v -> v.get(0, 0, 0, 0));
                Expect.same("the first frame again, at any time", vault.frame(0), 0);
                Expect.same("its sample", vault.get(0, 0, 0, 0), 0);
                Expect.refused(() -> vault, "time(1)", INDEX, v -> v.time(1));
            }
        });
        Expect.sentence("2", "the file stays", () -> {
            FrameVault vault = rich();
            int size = vault.size();
            int check = vault.check(0, size);
            vault.shape(6, 6, 3);
            Expect.same("size", vault.size(), size);
            Expect.same("bytes", vault.check(0, size), check);
            vault.poke(3, 129);
            Expect.same("it can be read", vault.read(), FrameVault.NONE);
            Expect.same("its width", vault.about(1), 2);
            Expect.same("its last sample", vault.get(1, 2, 1, 1), 255);
        });
        Expect.sentence("2", "a refused shape keeps frames and samples", () -> {
            FrameVault vault = rich();
            Expect.refused(() -> vault, "shape(7, 2, 3)", ARGUMENT, v -> v.shape(7, 2, 3));
            Expect.same("the next frame", vault.frame(21), 2);
        });
    }

    private static void promise3() {
        Expect.sentence("3", "a frame more: its number", () -> {
            FrameVault vault = new FrameVault();
            for (int frame = 0; frame < 3; frame++) {
                Expect.same("frames before", vault.about(0), frame);
                Expect.same("its number", vault.frame(frame), frame);
                Expect.same("frames", vault.about(0), frame + 1);
            }
        });
        Expect.sentence("3", "all samples 0", () -> {
            FrameVault vault = new FrameVault();
            for (int round = 0; round < 2; round++) {
                vault.shape(2, 2, 3);
                for (int frame = 0; frame < 3; frame++) {
                    vault.frame(frame);
                    for (int k = 0; k < 12; k++) {
                        Expect.same("a new sample", vault.set(frame, k / 4, k % 2, k / 2 % 2, 255), 0);
                    }
                }
            }
        });
        Expect.sentence("3", "all samples 0, also where a read left others", () -> {
            FrameVault vault = vault(6, 2, 1, 3).get();
            for (int frame = 0; frame < 3; frame++) {
                for (int k = 0; k < 12; k++) {
                    vault.set(frame, 0, k % 6, k / 6, 200);
                }
            }
            vault.write(0, 1);
            vault.read();
            vault.shape(6, 2, 1);
            vault.write(0, 1);
            Expect.same("read of no frames", vault.read(), FrameVault.NONE);
            for (int frame = 0; frame < 3; frame++) {
                vault.frame(frame);
                for (int k = 0; k < 12; k++) {
                    Expect.same("a new sample", vault.get(frame, 0, k % 6, k / 6), 0);
                }
            }
        });
    }

    private static void promise3Times() {
        Expect.sentence("3", "time is not 0 .. 65535", () -> {
            for (int time : new int[] {-2, -1, 0, 1, 255, 256, 32767, 32768, 65534, 65535, 65536, 65537}) {
                boolean may = time >= 0 && time <= 65535;
                Expect.takenIf(may, FrameVault::new, "frame(" + time + ")", ARGUMENT, v -> {
                    Expect.same("its number", v.frame(time), 0);
                    Expect.same("its time", v.time(0), time);
                });
            }
            for (int time : new int[] {Integer.MIN_VALUE, -65536, -65535, 131072, 65536 + 7, Integer.MAX_VALUE}) {
                Expect.refused(FrameVault::new, "frame(" + time + ")", ARGUMENT, v -> v.frame(time));
            }
        });
        Expect.sentence("3", "not greater than that of the last one", () -> {
            for (int last : new int[] {0, 1, 255, 256, 32767, 32768, 65534, 65535}) {
                for (int time = last - 1; time <= last + 1; time++) {
                    int t = time;
                    boolean may = t > last && t <= 65535;
                    Expect.takenIf(may, timed(last), last + ", then " + t, ARGUMENT,
                            v -> Expect.same("its number", v.frame(t), 1));
                    if (last > 0) {
                        Expect.takenIf(may, timed(0, last), "0, " + last + ", then " + t, ARGUMENT,
                                v -> Expect.same("its number", v.frame(t), 2));
                    }
                }
            }
            Expect.refused(timed(5, 9), "greater than the first, not than the last", ARGUMENT, v -> v.frame(7));
        });
        Expect.sentence("3", "the last one may come from the file", () -> {
            FrameVault vault = timed(100, 200).get();
            vault.write(0, 1);
            vault.shape(1, 1, 1);
            vault.frame(7);
            vault.read();
            Expect.refused(() -> vault, "frame(200)", ARGUMENT, v -> v.frame(200));
            Expect.same("frame(201)", vault.frame(201), 2);
        });
        Expect.sentence("3", "a refused time is not the last one", () -> {
            FrameVault vault = timed(5).get();
            Expect.refused(() -> vault, "frame(65536)", ARGUMENT, v -> v.frame(65536));
            Expect.refused(() -> vault, "frame(5)", ARGUMENT, v -> v.frame(5));
            Expect.same("frame(6)", vault.frame(6), 1);
        });
    }

    private static void promise3Full() {
        Expect.sentence("3", "there are 3", () -> {
            Expect.taken(timed(1), "a second one", 1, v -> v.frame(2));
            Expect.taken(timed(1, 2), "a third one", 2, v -> v.frame(3));
            Expect.refused(timed(1, 2, 3), "a fourth one", STATE, v -> v.frame(4));
            Expect.refused(timed(0, 1, 65534), "a fourth one at the last time", STATE, v -> v.frame(65535));
            FrameVault vault = timed(1, 2, 3).get();
            Expect.refused(() -> vault, "a fourth one", STATE, v -> v.frame(4));
            Expect.refused(() -> vault, "a fourth one, asked again", STATE, v -> v.frame(5));
            vault.shape(1, 1, 1);
            Expect.same("room again", vault.frame(4), 0);
        });
        Expect.sentence("3", "the one named first: IllegalArgumentException", () -> {
            for (int time : new int[] {-1, 0, 2, 3, 65536}) {
                Expect.refused(timed(1, 2, 3), "frame(" + time + ")", ARGUMENT, v -> v.frame(time));
            }
            Expect.refused(timed(1, 2, 65535), "no time is left", ARGUMENT, v -> v.frame(65535));
        });
    }

    /** Whether there is such a place in a vault of that shape; all that are one step off are asked for. */
    private static void places(int width, int height, int planes, int frames) {
        Supplier<FrameVault> maker = vault(width, height, planes, frames);
        int[][] corners = {{0, 0, 0, 0}, {frames - 1, planes - 1, width - 1, height - 1}};
        int[] ends = {frames, planes, width, height};
        for (int[] corner : corners) {
            for (int part = 0; part < 4; part++) {
                for (int step = -1; step <= 1; step++) {
                    int[] p = corner.clone();
                    p[part] += step;
                    boolean may = p[part] >= 0 && p[part] < ends[part];
                    place(maker, p, may);
                }
            }
        }
    }

    private static void place(Supplier<FrameVault> maker, int[] p, boolean may) {
        String what = p[0] + ", " + p[1] + ", " + p[2] + ", " + p[3];
        Expect.takenIf(may, maker, "get " + what, INDEX, v -> Expect.same("it", v.get(p[0], p[1], p[2], p[3]), 0));
        Expect.takenIf(may, maker, "set " + what, INDEX, v -> {
            Expect.same("what it was", v.set(p[0], p[1], p[2], p[3], 9), 0);
            Expect.same("what it is", v.get(p[0], p[1], p[2], p[3]), 9);
        });
        if (!may) {
            Expect.refused(maker, "set 256 at " + what, INDEX, v -> v.set(p[0], p[1], p[2], p[3], 256));
            Expect.refused(maker, "set -1 at " + what, INDEX, v -> v.set(p[0], p[1], p[2], p[3], -1));
        }
    }

    private static void promise4() {
        Expect.sentence("4 and 5", "there is no such frame, plane, or place", () -> {
            int[][] shapes = {{1, 1, 1}, {2, 1, 1}, {1, 2, 1}, {6, 1, 1}, {1, 6, 1}, {5, 6, 1}, {1, 1, 3}, {3, 2, 3},
                {2, 3, 3}, {4, 5, 1}};
            for (int[] s : shapes) {
                places(s[0], s[1], s[2], 1);
                places(s[0], s[1], s[2], 3);
            }
            for (int far : FAR) {
                for (int part = 0; part < 4; part++) {
                    int[] p = new int[4];
                    p[part] = far;
                    place(vault(2, 2, 3, 2), p, false);
                }
            }
            place(vault(2, 2, 1, 0), new int[4], false);
        });
        Expect.sentence("4", "a sample becomes v: what it was", EdgesOfFramesTest::everySampleAlone);
        Expect.sentence("4", "v is not 0 .. 255", () -> {
            for (int v : new int[] {-2, -1, 0, 1, 127, 128, 254, 255, 256, 257, -255, -256, 511, 512,
                Integer.MIN_VALUE, Integer.MAX_VALUE}) {
                Expect.takenIf(v >= 0 && v <= 255, EdgesOfFramesTest::rich, "set " + v, ARGUMENT, vault -> {
                    Expect.same("what it was", vault.set(1, 2, 1, 1, v), 255);
                    Expect.same("what it is", vault.set(1, 2, 1, 1, 3), v);
                });
            }
        });
    }

    /** Each place of the greatest shape has a sample of its own, kept while the others change. */
    private static void everySampleAlone() {
        for (int frame = 0; frame < 3; frame++) {
            FrameVault vault = vault(6, 6, 3, 3).get();
            for (int k = 0; k < 108; k++) {
                Expect.same("what it was", vault.set(frame, k / 36, k % 6, k / 6 % 6, 255 - k), 0);
            }
            for (int k = 0; k < 108; k++) {
                Expect.same("it", vault.get(frame, k / 36, k % 6, k / 6 % 6), 255 - k);
                Expect.same("another frame's", vault.get((frame + 1) % 3, k / 36, k % 6, k / 6 % 6), 0);
                Expect.same("another frame's", vault.get((frame + 2) % 3, k / 36, k % 6, k / 6 % 6), 0);
            }
        }
    }

    private static void promise5() {
        Expect.sentence("5", "a sample", () -> {
            FrameVault vault = rich();
            String before = Expect.stateOf(vault);
            Expect.same("the greatest", vault.get(1, 2, 1, 1), 255);
            Expect.same("again", vault.get(1, 2, 1, 1), 255);
            Expect.same("one of 1", vault.get(0, 0, 0, 0), 1);
            Expect.same("one of 0", vault.get(0, 2, 1, 1), 0);
            Expect.same("nothing changes", Expect.stateOf(vault), before);
        });
        Expect.sentence("5", "places of an earlier, greater shape are gone", () -> {
            FrameVault vault = vault(6, 6, 3, 3).get();
            vault.shape(2, 3, 1);
            vault.frame(1);
            int[][] gone = {{1, 0, 0, 0}, {0, 1, 0, 0}, {0, 0, 2, 0}, {0, 0, 0, 3}};
            for (int[] p : gone) {
                Expect.refused(() -> vault, "get", INDEX, v -> v.get(p[0], p[1], p[2], p[3]));
            }
            Expect.same("the last one", vault.get(0, 0, 1, 2), 0);
        });
    }

    private static void promise6() {
        Expect.sentence("6", "the time of a frame; there is none such", () -> {
            int[] times = {0, 256, 65535};
            for (int frames = 0; frames <= 3; frames++) {
                Supplier<FrameVault> maker = timed(java.util.Arrays.copyOf(times, frames));
                for (int frame = -2; frame <= 4; frame++) {
                    int f = frame;
                    Expect.takenIf(f >= 0 && f < frames, maker, "time(" + f + ") of " + frames, INDEX,
                            v -> Expect.same("it", v.time(f), times[f]));
                }
                for (int far : FAR) {
                    Expect.refused(maker, "time(" + far + ")", INDEX, v -> v.time(far));
                }
            }
        });
    }

    private static void promise7() {
        Expect.sentence("7", "what is none of these", () -> {
            for (int what = -3; what <= 7; what++) {
                int w = what;
                Expect.takenIf(w >= 0 && w <= 3, vault(4, 5, 3, 2), "about(" + w + ")", ARGUMENT,
                        v -> Expect.same("it", v.about(w), new int[] {2, 4, 5, 3}[w]));
            }
            for (int far : FAR) {
                Expect.refused(EdgesOfFramesTest::rich, "about(" + far + ")", ARGUMENT, v -> v.about(far));
            }
        });
        Expect.sentence("7", "how many frames, width, height, planes: the least and the most", () -> {
            for (int frames = 0; frames <= 3; frames++) {
                Expect.taken(vault(1, 6, 1, frames), "frames", frames, v -> v.about(0));
            }
            for (int side = 1; side <= 6; side++) {
                Expect.taken(vault(side, 7 - side, 3, 1), "width", side, v -> v.about(1));
                Expect.taken(vault(7 - side, side, 1, 1), "height", side, v -> v.about(2));
            }
        });
    }
}
