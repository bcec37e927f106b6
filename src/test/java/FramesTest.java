/** Promises 1 to 7: a new object, shape, frame, set, get, time, about. */
public final class FramesTest {
    private static final Class<IllegalArgumentException> ARGUMENT = IllegalArgumentException.class;
    private static final Class<IllegalStateException> STATE = IllegalStateException.class;
    private static final Class<IndexOutOfBoundsException> INDEX = IndexOutOfBoundsException.class;

    public static void main(String[] args) {
        newObject();
        shape();
        frame();
        setAndGet();
        setAndGetRefuse();
        time();
        about();
        Expect.end();
    }

    private static void newObject() {
        FrameVault vault = new FrameVault();
        Expect.same("new: frames", vault.about(0), 0);
        Expect.same("new: width", vault.about(1), 1);
        Expect.same("new: height", vault.about(2), 1);
        Expect.same("new: planes", vault.about(3), 1);
        Expect.same("new: size", vault.size(), 0);
        Expect.same("new: read", vault.read(), 0);
    }

    private static FrameVault withFrames(int... times) {
        FrameVault vault = new FrameVault();
        for (int time : times) {
            vault.frame(time);
        }
        return vault;
    }

    private static FrameVault written() {
        FrameVault vault = new FrameVault();
        vault.shape(2, 2, 1);
        vault.frame(9);
        vault.set(0, 0, 1, 1, 77);
        vault.write(0, 1);
        return vault;
    }

    private static void shape() {
        FrameVault vault = new FrameVault();
        for (int side = 1; side <= 6; side++) {
            vault.shape(side, 7 - side, 3);
            Expect.same("width", vault.about(1), side);
            Expect.same("height", vault.about(2), 7 - side);
            Expect.same("planes", vault.about(3), 3);
        }
        int[][] bad = {{0, 1, 1}, {7, 1, 1}, {-1, 1, 1}, {1, 0, 1}, {1, 7, 1}, {1, -6, 1}, {1, 1, 0}, {1, 1, 2},
            {1, 1, 4}, {1, 1, -1}, {Integer.MIN_VALUE, 1, 1}, {1, Integer.MAX_VALUE, 3}};
        for (int[] b : bad) {
            Expect.refused(FramesTest::written, "shape " + b[0] + " " + b[1] + " " + b[2], ARGUMENT,
                    v -> v.shape(b[0], b[1], b[2]));
        }
        FrameVault again = written();
        int size = again.size();
        int check = again.check(0, size);
        again.shape(2, 2, 1);
        Expect.same("the same shape: frames", again.about(0), 0);
        Expect.same("the same shape: size", again.size(), size);
        Expect.same("the same shape: the file", again.check(0, size), check);
        Expect.same("after shape any time does", again.frame(0), 0);
        Expect.same("a new frame has samples 0", again.get(0, 0, 1, 1), 0);
        samplesBecomeZero();
    }

    private static void samplesBecomeZero() {
        FrameVault vault = new FrameVault();
        for (int round = 0; round < 2; round++) {
            vault.shape(2, 2, 3);
            vault.frame(round);
            vault.frame(round + 1);
            for (int place = 0; place < 24; place++) {
                int was = vault.set(place / 12, place / 4 % 3, place % 2, place / 2 % 2, 255 - place);
                Expect.same("a sample of a new frame", was, 0);
            }
        }
    }

    private static void frame() {
        FrameVault vault = new FrameVault();
        Expect.same("frame(0)", vault.frame(0), 0);
        Expect.same("frame(1)", vault.frame(1), 1);
        Expect.same("frame(65534)", vault.frame(65534), 2);
        Expect.same("frames", vault.about(0), 3);
        Expect.same("frame(65535)", new FrameVault().frame(65535), 0);
        refusedFrame(ARGUMENT, -1);
        refusedFrame(ARGUMENT, 65536);
        refusedFrame(ARGUMENT, Integer.MIN_VALUE);
        refusedFrame(ARGUMENT, 0, 0);
        refusedFrame(ARGUMENT, 0, 0, 1);
        refusedFrame(ARGUMENT, 65535, 65535);
        refusedFrame(ARGUMENT, 65536, 65535);
        refusedFrame(STATE, 65535, 0, 1, 65534);
        refusedFrame(ARGUMENT, 65534, 0, 1, 65534);
        refusedFrame(ARGUMENT, 65536, 0, 1, 2);
        refusedFrame(ARGUMENT, -1, 0, 1, 2);
    }

    private static void refusedFrame(Class<? extends RuntimeException> kind, int time, int... before) {
        Expect.refused(() -> withFrames(before), "frame(" + time + ")", kind, v -> v.frame(time));
    }

    private static void setAndGet() {
        FrameVault vault = new FrameVault();
        vault.shape(6, 2, 3);
        vault.frame(1);
        vault.frame(2);
        for (int round = 0; round < 2; round++) {
            for (int place = 0; place < 72; place++) {
                int due = round == 0 ? 0 : place * 3;
                int v = round == 0 ? place * 3 : 255 - place;
                Expect.same("set", vault.set(place / 36, place / 12 % 3, place % 6, place / 6 % 2, v), due);
            }
        }
        for (int place = 0; place < 72; place++) {
            Expect.same("get", vault.get(place / 36, place / 12 % 3, place % 6, place / 6 % 2), 255 - place);
        }
    }

    private static FrameVault oneFrame() {
        FrameVault vault = new FrameVault();
        vault.shape(2, 3, 1);
        vault.frame(1);
        vault.set(0, 0, 1, 2, 200);
        return vault;
    }

    private static void setAndGetRefuse() {
        int[][] bad = {{-1, 0, 0, 0}, {1, 0, 0, 0}, {0, -1, 0, 0}, {0, 1, 0, 0}, {0, 0, -1, 0}, {0, 0, 2, 0},
            {0, 0, 0, -1}, {0, 0, 0, 3}, {Integer.MAX_VALUE, 0, 0, 0}, {0, 0, Integer.MIN_VALUE, 0}};
        for (int[] b : bad) {
            Expect.refused(FramesTest::oneFrame, "get", INDEX, v -> v.get(b[0], b[1], b[2], b[3]));
            Expect.refused(FramesTest::oneFrame, "set", INDEX, v -> v.set(b[0], b[1], b[2], b[3], 1));
            Expect.refused(FramesTest::oneFrame, "set, twice wrong", INDEX,
                    v -> v.set(b[0], b[1], b[2], b[3], 256));
        }
        Expect.refused(FramesTest::oneFrame, "set 256", ARGUMENT, v -> v.set(0, 0, 1, 2, 256));
        Expect.refused(FramesTest::oneFrame, "set -1", ARGUMENT, v -> v.set(0, 0, 1, 2, -1));
        FrameVault vault = oneFrame();
        Expect.same("set 255", vault.set(0, 0, 1, 2, 255), 200);
        Expect.same("set 0", vault.set(0, 0, 1, 2, 0), 255);
    }

    private static void time() {
        FrameVault vault = withFrames(5, 700, 65535);
        Expect.same("time(0)", vault.time(0), 5);
        Expect.same("time(1)", vault.time(1), 700);
        Expect.same("time(2)", vault.time(2), 65535);
        Expect.refused(FrameVault::new, "time(0) of none", INDEX, v -> v.time(0));
        Expect.refused(() -> withFrames(5, 7, 9), "time(-1)", INDEX, v -> v.time(-1));
        Expect.refused(() -> withFrames(5, 7, 9), "time(3)", INDEX, v -> v.time(3));
        Expect.refused(() -> withFrames(5, 7), "time(2) of two", INDEX, v -> v.time(2));
        vault.shape(1, 1, 1);
        Expect.refused(() -> vault, "time(0) after shape", INDEX, v -> v.time(0));
    }

    private static void about() {
        FrameVault vault = new FrameVault();
        vault.shape(5, 4, 3);
        vault.frame(5);
        Expect.same("about(0)", vault.about(0), 1);
        Expect.same("about(1)", vault.about(1), 5);
        Expect.same("about(2)", vault.about(2), 4);
        Expect.same("about(3)", vault.about(3), 3);
        for (int what : new int[] {-1, 4, Integer.MIN_VALUE, Integer.MAX_VALUE}) {
            Expect.refused(FramesTest::oneFrame, "about(" + what + ")", ARGUMENT, v -> v.about(what));
        }
    }
}
