import java.util.ArrayList;
import java.util.List;
import java.util.function.Consumer;

/** What the document says of all calls: what they throw, that a call that throws changes nothing, 512 of them. */
public final class EdgesOfCallsTest {
    private static final Class<IllegalArgumentException> ARGUMENT = IllegalArgumentException.class;
    private static final Class<IllegalStateException> STATE = IllegalStateException.class;
    private static final Class<IndexOutOfBoundsException> INDEX = IndexOutOfBoundsException.class;

    public static void main(String[] args) {
        nothingChanges();
        nothingChangesInside();
        namedFirst();
        manyCalls();
        twoVaults();
        sameAnswers();
        oneAfterAnother();
        Expect.end();
    }

    /** Full in every way: three frames, and a file of 1200 bytes that begins with them. */
    private static FrameVault full() {
        FrameVault vault = new FrameVault();
        vault.shape(2, 2, 1);
        for (int frame = 0; frame < 3; frame++) {
            vault.frame(1000 * frame);
            vault.set(frame, 0, 1, 1, 100 + frame);
        }
        vault.write(1, 2);
        int many = 1200 - vault.size() - 3;
        vault.type(236L << 16 | 64 + many / 256 << 8 | many % 256, 3);
        while (vault.size() < 1200) {
            vault.type(0, Math.min(8, 1200 - vault.size()));
        }
        return vault;
    }

    private static List<Consumer<FrameVault>> refusedCalls() {
        List<Consumer<FrameVault>> calls = new ArrayList<>();
        calls.add(v -> v.shape(0, 1, 1));
        calls.add(v -> v.shape(1, 7, 1));
        calls.add(v -> v.shape(1, 1, 2));
        calls.add(v -> v.frame(-1));
        calls.add(v -> v.frame(65536));
        calls.add(v -> v.frame(2000));
        calls.add(v -> v.frame(2001));
        calls.add(v -> v.set(3, 0, 0, 0, 1));
        calls.add(v -> v.set(2, 1, 0, 0, 1));
        calls.add(v -> v.set(2, 0, 2, 0, 1));
        calls.add(v -> v.set(2, 0, 1, 2, 1));
        calls.add(v -> v.set(2, 0, 1, 1, 256));
        calls.add(v -> v.set(2, 0, 1, 1, -1));
        calls.add(v -> v.get(3, 0, 0, 0));
        calls.add(v -> v.get(0, 0, -1, 0));
        calls.add(v -> v.time(3));
        calls.add(v -> v.time(-1));
        calls.add(v -> v.about(4));
        calls.add(v -> v.about(-1));
        calls.add(v -> v.write(2, 1));
        calls.add(v -> v.write(0, 0));
        calls.add(v -> v.write(1, 3));
        calls.add(v -> v.byteAt(1200));
        calls.add(v -> v.byteAt(-1));
        calls.add(v -> v.poke(1200, 1));
        calls.add(v -> v.poke(1199, 256));
        calls.add(v -> v.poke(0, -1));
        calls.add(v -> v.type(-1L, 0));
        calls.add(v -> v.type(-1L, 9));
        calls.add(v -> v.type(-1L, 1));
        calls.add(v -> v.type(-1L, 8));
        calls.add(v -> v.cut(-1));
        calls.add(v -> v.cut(1201));
        calls.add(v -> v.check(-1, 0));
        calls.add(v -> v.check(1200, 1));
        calls.add(v -> v.check(0, 1201));
        calls.add(v -> v.check(0, -1));
        return calls;
    }

    private static boolean throwsSomething(FrameVault vault, Consumer<FrameVault> call) {
        try {
            call.accept(vault);
            return false;
        } catch (IllegalArgumentException | IllegalStateException | IndexOutOfBoundsException e) {
            return true;
        }
    }

    private static void nothingChanges() {
        Expect.sentence("Terms", "a call that throws changes nothing", () -> {
            String before = Expect.stateOf(full());
            int n = 0;
            for (Consumer<FrameVault> call : refusedCalls()) {
                FrameVault vault = full();
                Expect.yes("that call " + n + " throws", throwsSomething(vault, call));
                Expect.same("after call " + n, Expect.stateOf(vault), before);
                n++;
            }
            FrameVault vault = full();
            for (Consumer<FrameVault> call : refusedCalls()) {
                throwsSomething(vault, call);
            }
            Expect.same("after all of them", Expect.stateOf(vault), before);
        });
    }

    /** What is not seen at once: what the next calls do is the same as if none had thrown. */
    private static void nothingChangesInside() {
        Expect.sentence("Terms", "a call that throws changes nothing of what comes", () -> {
            int n = 0;
            for (Consumer<FrameVault> call : refusedCalls()) {
                FrameVault vault = full();
                throwsSomething(vault, call);
                String what = "after call " + n;
                Expect.same(what + ": read", vault.read(), FrameVault.NONE);
                vault.cut(1199);
                Expect.same(what + ": type", vault.type(7, 1), 1200);
                Expect.same(what + ": the last byte", vault.byteAt(1199), 7);
                FrameVault fresh = full();
                int size = fresh.write(0, 2);
                Expect.same(what + ": write", vault.write(0, 2), size);
                Expect.same(what + ": what is written", vault.check(0, size), fresh.check(0, size));
                n++;
            }
        });
        Expect.sentence("9", "a read that fails changes nothing of what comes", () -> {
            FrameVault vault = full();
            int failed = 0;
            for (int k = 0; k < 60; k++) {
                int b = vault.byteAt(k);
                vault.poke(k, b ^ 255);
                int place = vault.read();
                vault.poke(k, b);
                if (place == FrameVault.NONE) {
                    vault.read(); // another time is no fault
                } else {
                    failed++;
                }
            }
            Expect.yes("that most of them failed", failed > 50);
            Expect.same("in the end", Expect.stateOf(vault), Expect.stateOf(full()));
            Expect.same("read", vault.read(), FrameVault.NONE);
        });
    }

    private static void namedFirst() {
        Expect.sentence("Terms", "the one named first when several would do", () -> {
            Expect.refused(EdgesOfCallsTest::full, "frame: no time, no room", ARGUMENT, v -> v.frame(65536));
            Expect.refused(EdgesOfCallsTest::full, "frame: not greater, no room", ARGUMENT, v -> v.frame(2000));
            Expect.refused(EdgesOfCallsTest::full, "frame: no room", STATE, v -> v.frame(2001));
            Expect.refused(EdgesOfCallsTest::full, "set: no place, no sample", INDEX, v -> v.set(0, 0, 2, 2, 256));
            Expect.refused(EdgesOfCallsTest::full, "set: no frame, no sample", INDEX, v -> v.set(3, 0, 0, 0, -1));
            Expect.refused(EdgesOfCallsTest::full, "set: no sample", ARGUMENT, v -> v.set(0, 0, 1, 1, 256));
            Expect.refused(EdgesOfCallsTest::full, "write: no mode, no slices", ARGUMENT, v -> v.write(2, 0));
            Expect.refused(EdgesOfCallsTest::full, "poke: no byte there, no byte", INDEX, v -> v.poke(1200, 256));
            Expect.refused(EdgesOfCallsTest::full, "poke: no byte", ARGUMENT, v -> v.poke(1199, 256));
            Expect.refused(EdgesOfCallsTest::full, "type: no n, no room", ARGUMENT, v -> v.type(0, 9));
            Expect.refused(EdgesOfCallsTest::full, "type: no room", STATE, v -> v.type(0, 1));
            Expect.refused(EdgesOfCallsTest::full, "check: no from, below 0", INDEX, v -> v.check(1201, -1));
            Expect.refused(EdgesOfCallsTest::full, "check: no from, below 0", INDEX, v -> v.check(-1, -1));
            Expect.refused(EdgesOfCallsTest::full, "check: below 0", ARGUMENT, v -> v.check(1200, -1));
        });
    }

    private static void manyCalls() {
        Expect.sentence("What it is", "an object is used for at most 512 calls", () -> {
            FrameVault vault = new FrameVault();
            vault.shape(6, 6, 3);
            vault.frame(0);
            vault.set(0, 2, 5, 5, 255);
            int size = vault.write(1, 3);
            int check = vault.check(0, size);
            for (int call = 5; call < 512; call += 3) {
                Expect.same("call " + call, vault.write(1, 3), size);
                Expect.same("call " + (call + 1), vault.read(), FrameVault.NONE);
                Expect.same("call " + (call + 2), vault.check(0, size), check);
            }
        });
        Expect.sentence("What it is", "the 512th call is as good as the first", () -> {
            FrameVault vault = new FrameVault();
            int size = 0;
            for (int call = 1; call <= 510; call++) {
                size += 1 + call % 2;
                Expect.same("call " + call, vault.type(call, 1 + call % 2), size);
            }
            Expect.same("call 511", vault.byteAt(size - 1), 510 & 255);
            Expect.same("call 512", vault.size(), 765);
        });
    }

    private static void twoVaults() {
        Expect.sentence("1", "two objects have nothing in common", () -> {
            FrameVault one = new FrameVault();
            FrameVault two = new FrameVault();
            one.shape(2, 1, 1);
            two.shape(1, 2, 3);
            one.frame(1);
            two.frame(2);
            one.set(0, 0, 1, 0, 77);
            two.set(0, 2, 0, 1, 88);
            one.write(0, 1);
            two.write(1, 2);
            String ofOne = Expect.stateOf(one);
            String ofTwo = Expect.stateOf(two);
            Expect.same("read of one", one.read(), FrameVault.NONE);
            Expect.same("one", Expect.stateOf(one), ofOne);
            Expect.same("read of two", two.read(), FrameVault.NONE);
            Expect.same("two", Expect.stateOf(two), ofTwo);
            one.cut(0);
            one.shape(6, 6, 3);
            Expect.same("two, when one is empty", Expect.stateOf(two), ofTwo);
        });
    }

    private static void sameAnswers() {
        Expect.sentence("Modes", "what one write or read left does not matter to the next", () -> {
            FrameVault vault = new FrameVault();
            vault.shape(6, 5, 1);
            vault.frame(9);
            for (int k = 0; k < 30; k++) {
                vault.set(0, 0, k % 6, k / 6, k * k & 255);
            }
            int[][] codings = {{0, 1}, {1, 1}, {0, 2}, {1, 2}, {0, 3}, {1, 3}};
            int[] checks = new int[codings.length];
            for (int round = 0; round < 3; round++) {
                for (int k = 0; k < codings.length; k++) {
                    int which = round == 1 ? codings.length - 1 - k : k;
                    int size = vault.write(codings[which][0], codings[which][1]);
                    int check = vault.check(0, size);
                    Expect.same("round " + round + ", coding " + which, check, round == 0 ? check : checks[which]);
                    checks[which] = check;
                    vault.poke(size - 1, vault.byteAt(size - 1) ^ 1);
                    Expect.same("a wrong check", vault.read(), size - 2);
                }
            }
        });
    }

    /** Pictures of all kinds, one read behind another by the same vault, and written again. */
    private static void oneAfterAnother() {
        Expect.sentence("9", "shape and frames are what it has, whatever was there before", () -> {
            List<DocModel.Picture> pictures = new ArrayList<>();
            for (int n = 0; n < 12; n++) {
                pictures.add(Asides.among(n / 2 % 2, n % 2 == 0 ? 1 : 3, 4, 0, 1, 5, 90, 128, 255).apply(n));
            }
            for (DocModel.Picture first : pictures) {
                for (DocModel.Picture second : pictures) {
                    FrameVault vault = Vaults.withPicture(first);
                    vault.write(first.mode, first.slices);
                    vault.read();
                    vault.cut(0);
                    int[] bytes = DocModel.fileOf(second);
                    Vaults.typeAll(vault, bytes);
                    Expect.same("read", vault.read(), FrameVault.NONE);
                    Vaults.hasPicture("the second one", vault, second);
                    vault.cut(0);
                    Expect.same("write", vault.write(second.mode, second.slices), bytes.length);
                    Vaults.hasFile("the second one", vault, bytes);
                }
            }
        });
    }
}
