/** Promises 10 to 15: size, byteAt, poke, type, cut, check. */
public final class BytesTest {
    private static final Class<IllegalArgumentException> ARGUMENT = IllegalArgumentException.class;
    private static final Class<IllegalStateException> STATE = IllegalStateException.class;
    private static final Class<IndexOutOfBoundsException> INDEX = IndexOutOfBoundsException.class;

    public static void main(String[] args) {
        type();
        typeToTheLimit();
        byteAt();
        poke();
        cut();
        check();
        checkRefuses();
        Expect.end();
    }

    private static void due(FrameVault vault, int... bytes) {
        Expect.same("size", vault.size(), bytes.length);
        for (int k = 0; k < bytes.length; k++) {
            Expect.same("byte " + k, vault.byteAt(k), bytes[k]);
        }
    }

    private static void type() {
        FrameVault vault = new FrameVault();
        Expect.same("size of none", vault.size(), 0);
        Expect.same("type 1", vault.type(0x1234L, 1), 1);
        Expect.same("type 3", vault.type(0x0102FFL, 3), 4);
        Expect.same("type 8", vault.type(0x80818283FCFDFEFFL, 8), 12);
        Expect.same("type -1", vault.type(-1L, 2), 14);
        due(vault, 0x34, 1, 2, 255, 0x80, 0x81, 0x82, 0x83, 0xFC, 0xFD, 0xFE, 0xFF, 255, 255);
        vault.shape(3, 3, 3);
        Expect.same("the file stays with a shape", vault.size(), 14);
        for (int n : new int[] {0, 9, -1, Integer.MIN_VALUE, Integer.MAX_VALUE}) {
            Expect.refused(() -> Vaults.withFile(1, 2), "type of " + n, ARGUMENT, v -> v.type(1, n));
        }
    }

    private static FrameVault filled(int many) {
        int[] bytes = new int[many];
        for (int k = 0; k < many; k++) {
            bytes[k] = k * 7 & 255;
        }
        return Vaults.withFile(bytes);
    }

    private static void typeToTheLimit() {
        FrameVault vault = filled(1197);
        Expect.same("1200", vault.type(0xABCDEF, 3), 1200);
        Expect.same("the last byte", vault.byteAt(1199), 0xEF);
        Expect.same("a long file is read", vault.read(), 0);
        Expect.same("a long file is replaced", vault.write(0, 1), 21);
        Expect.same("and can be typed on", vault.type(0, 8), 29);
        Expect.refused(() -> filled(1197), "1201", STATE, v -> v.type(1, 4));
        Expect.refused(() -> filled(1197), "1205", STATE, v -> v.type(1, 8));
        Expect.refused(() -> filled(1200), "1201", STATE, v -> v.type(1, 1));
        Expect.refused(() -> filled(1200), "too many, and no such n", ARGUMENT, v -> v.type(1, 9));
        Expect.refused(() -> filled(1200), "too many, and no such n", ARGUMENT, v -> v.type(1, 0));
    }

    private static FrameVault three() {
        return Vaults.withFile(1, 2, 3);
    }

    private static void byteAt() {
        Expect.same("byteAt(0)", three().byteAt(0), 1);
        Expect.same("byteAt(2)", three().byteAt(2), 3);
        Expect.refused(FrameVault::new, "byteAt(0) of none", INDEX, v -> v.byteAt(0));
        for (int k : new int[] {-1, 3, 1200, Integer.MIN_VALUE, Integer.MAX_VALUE}) {
            Expect.refused(BytesTest::three, "byteAt(" + k + ")", INDEX, v -> v.byteAt(k));
        }
    }

    private static void poke() {
        FrameVault vault = three();
        vault.poke(0, 255);
        vault.poke(2, 0);
        due(vault, 255, 2, 0);
        Expect.refused(FrameVault::new, "poke none", INDEX, v -> v.poke(0, 0));
        Expect.refused(BytesTest::three, "poke(3, 0)", INDEX, v -> v.poke(3, 0));
        Expect.refused(BytesTest::three, "poke(-1, 0)", INDEX, v -> v.poke(-1, 0));
        Expect.refused(BytesTest::three, "poke(3, 256)", INDEX, v -> v.poke(3, 256));
        Expect.refused(BytesTest::three, "poke(1, 256)", ARGUMENT, v -> v.poke(1, 256));
        Expect.refused(BytesTest::three, "poke(1, -1)", ARGUMENT, v -> v.poke(1, -1));
    }

    private static void cut() {
        FrameVault vault = Vaults.withFile(1, 2, 3, 4);
        vault.cut(4);
        due(vault, 1, 2, 3, 4);
        vault.cut(2);
        due(vault, 1, 2);
        vault.type(9, 1);
        due(vault, 1, 2, 9);
        vault.cut(0);
        due(vault);
        vault.cut(0);
        due(vault);
        Expect.refused(FrameVault::new, "cut(1) of none", ARGUMENT, v -> v.cut(1));
        for (int n : new int[] {-1, 4, Integer.MIN_VALUE, Integer.MAX_VALUE}) {
            Expect.refused(BytesTest::three, "cut(" + n + ")", ARGUMENT, v -> v.cut(n));
        }
    }

    /** The check of "123456789" is known from other programs, for which it is the usual sample. */
    private static void check() {
        Expect.same("of no file", new FrameVault().check(0, 0), 65535);
        FrameVault vault = Vaults.withFile(0x31, 0x32, 0x33, 0x34, 0x35, 0x36, 0x37, 0x38, 0x39);
        Expect.same("of 123456789", vault.check(0, 9), 0x29B1);
        Expect.same("of a part", vault.check(3, 2), DocModel.checkOf(new int[] {0x34, 0x35}));
        Expect.same("of none at the end", vault.check(9, 0), 65535);
        Expect.same("of none inside", vault.check(4, 0), 65535);
        FrameVault many = filled(256);
        for (int k = 0; k < 256; k++) {
            Expect.same("of byte " + k, many.check(k, 1), DocModel.checkOf(new int[] {k * 7 & 255}));
        }
    }

    private static void checkRefuses() {
        int[][] index = {{-1, 1}, {4, 0}, {3, 1}, {0, 4}, {1, Integer.MAX_VALUE}, {-1, -1}, {4, -1},
            {Integer.MIN_VALUE, 0}, {Integer.MAX_VALUE, 0}};
        for (int[] c : index) {
            Expect.refused(BytesTest::three, "check " + c[0] + " " + c[1], INDEX, v -> v.check(c[0], c[1]));
        }
        int[][] argument = {{3, -1}, {0, -1}, {0, Integer.MIN_VALUE}};
        for (int[] c : argument) {
            Expect.refused(BytesTest::three, "check " + c[0] + " " + c[1], ARGUMENT, v -> v.check(c[0], c[1]));
        }
    }
}
