import java.util.function.Supplier;

/** The edges of promises 10 to 15, sentence by sentence: the file's bytes and their check. */
public final class EdgesOfBytesTest {
    private static final Class<IllegalArgumentException> ARGUMENT = IllegalArgumentException.class;
    private static final Class<IllegalStateException> STATE = IllegalStateException.class;
    private static final Class<IndexOutOfBoundsException> INDEX = IndexOutOfBoundsException.class;
    private static final int[] SIZES = {0, 1, 2, 7, 8, 9, 255, 256, 1199, 1200};
    private static final int[] FAR = {Integer.MIN_VALUE, Integer.MIN_VALUE + 1, -65536, -1200, -256, 1201, 65536,
        1 << 24, Integer.MAX_VALUE - 1, Integer.MAX_VALUE};

    public static void main(String[] args) {
        promise10();
        promise11();
        promise12();
        promise13();
        promise13Full();
        promise14();
        promise15();
        promise15Refuses();
        Expect.end();
    }

    private static int[] bytes(int many) {
        int[] bytes = new int[many];
        for (int k = 0; k < many; k++) {
            bytes[k] = k * 37 + k / 256 & 255;
        }
        return bytes;
    }

    private static Supplier<FrameVault> sized(int many) {
        return () -> {
            FrameVault vault = Vaults.withFile(bytes(many));
            vault.frame(4);
            vault.set(0, 0, 0, 0, 7);
            return vault;
        };
    }

    private static void promise10() {
        Expect.sentence("10", "how many bytes the file has", () -> {
            for (int many : SIZES) {
                Expect.taken(sized(many), "size", many, v -> v.size());
            }
            FrameVault vault = new FrameVault();
            for (int many = 1; many <= 20; many++) {
                vault.type(many, 1);
                Expect.same("after a byte more", vault.size(), many);
            }
            vault.cut(19);
            Expect.same("after a cut", vault.size(), 19);
            vault.poke(18, 0);
            Expect.same("after a poke", vault.size(), 19);
            Expect.same("write", vault.write(0, 1), 21);
            Expect.same("after write", vault.size(), 21);
            vault.read();
            Expect.same("after read", vault.size(), 21);
            vault.shape(2, 2, 3);
            Expect.same("after shape", vault.size(), 21);
        });
    }

    private static void promise11() {
        Expect.sentence("11", "byte k of the file; there is none", () -> {
            for (int many : SIZES) {
                int[] due = bytes(many);
                for (int k : new int[] {-2, -1, 0, 1, many - 2, many - 1, many, many + 1, 1199, 1200, 1201}) {
                    Expect.takenIf(k >= 0 && k < many, sized(many), "byteAt(" + k + ") of " + many, INDEX,
                            v -> Expect.same("it", v.byteAt(k), due[k]));
                }
                for (int k : FAR) {
                    Expect.refused(sized(many), "byteAt(" + k + ")", INDEX, v -> v.byteAt(k));
                }
            }
        });
        Expect.sentence("11", "a byte that was cut off is none", () -> {
            FrameVault vault = sized(20).get();
            vault.cut(10);
            Expect.same("the last one", vault.byteAt(9), bytes(10)[9]);
            Expect.refused(() -> vault, "the first one cut off", INDEX, v -> v.byteAt(10));
            vault.type(200, 1);
            Expect.same("a new one", vault.byteAt(10), 200);
            Expect.refused(() -> vault, "the one behind it", INDEX, v -> v.byteAt(11));
        });
    }

    private static void promise12() {
        Expect.sentence("12", "byte k of the file becomes b; there is none", () -> {
            for (int many : SIZES) {
                for (int k : new int[] {-2, -1, 0, 1, many - 2, many - 1, many, many + 1, 1200}) {
                    Expect.takenIf(k >= 0 && k < many, sized(many), "poke " + k + " of " + many, INDEX,
                            v -> pokeAlone(v, k, many));
                    if (k < 0 || k >= many) {
                        Expect.refused(sized(many), "both are wrong", INDEX, v -> v.poke(k, 256));
                        Expect.refused(sized(many), "both are wrong", INDEX, v -> v.poke(k, -1));
                    }
                }
                for (int k : FAR) {
                    Expect.refused(sized(many), "poke " + k, INDEX, v -> v.poke(k, 0));
                }
            }
        });
        Expect.sentence("12", "b is not 0 .. 255", () -> {
            for (int b : new int[] {-2, -1, 0, 1, 127, 128, 254, 255, 256, 257, -128, -255, -256, 511, 65536,
                Integer.MIN_VALUE, Integer.MAX_VALUE}) {
                for (int k : new int[] {0, 8}) {
                    Expect.takenIf(b >= 0 && b <= 255, sized(9), "poke " + b, ARGUMENT, v -> {
                        v.poke(k, b);
                        Expect.same("it", v.byteAt(k), b);
                    });
                }
            }
        });
    }

    private static void pokeAlone(FrameVault vault, int k, int many) {
        vault.poke(k, many & 255);
        int[] due = bytes(many);
        due[k] = many & 255;
        Vaults.hasFile("poke " + k, vault, due);
    }

    private static void promise13() {
        Expect.sentence("13", "n is not 1 .. 8", () -> {
            for (int n = -2; n <= 11; n++) {
                int many = n;
                Expect.takenIf(n >= 1 && n <= 8, sized(3), "type of " + n, ARGUMENT,
                        v -> Expect.same("how many", v.type(-1L, many), 3 + many));
            }
            for (int n : new int[] {Integer.MIN_VALUE, Integer.MAX_VALUE, 256 + 1, 65536 + 8, -1200, -8}) {
                Expect.refused(sized(3), "type of " + n, ARGUMENT, v -> v.type(5, n));
            }
        });
        Expect.sentence("13", "the n lowest bytes, the highest of them first", () -> {
            long[] words = {0x0102030405060708L, 0xFFFEFDFCFBFAF9F8L, 0x8000000000000000L, 0x7FFFFFFFFFFFFFFFL, 0L, -1L,
                0x0080008000800080L, 0x00000000FFFFFFFFL, 0xFFFFFFFF00000000L, 0x0000000080000000L};
            for (long word : words) {
                for (int n = 1; n <= 8; n++) {
                    FrameVault vault = Vaults.withFile(9, 9);
                    Expect.same("how many", vault.type(word, n), 2 + n);
                    String all = String.format("%016x", word);
                    for (int i = 0; i < n; i++) {
                        int from = 16 - 2 * n + 2 * i;
                        int due = Integer.parseInt(all.substring(from, from + 2), 16);
                        Expect.same(all + " of " + n + ", byte " + i, vault.byteAt(2 + i), due);
                    }
                    Expect.same("what was there", vault.check(0, 2), DocModel.checkOf(new int[] {9, 9}));
                }
            }
        });
    }

    private static void promise13Full() {
        Expect.sentence("13", "there would be more than 1200", () -> {
            for (int n = 1; n <= 8; n++) {
                int many = n;
                for (int size = 1200 - n - 1; size <= 1200; size++) {
                    int before = size;
                    Expect.takenIf(size + n <= 1200, sized(size), n + " bytes behind " + size, STATE,
                            v -> Expect.same("how many", v.type(many, many), before + many));
                }
            }
        });
        Expect.sentence("13", "a refused word leaves no part of itself", () -> {
            FrameVault vault = sized(1198).get();
            Expect.refused(() -> vault, "three bytes", STATE, v -> v.type(0x010203, 3));
            Expect.same("two bytes", vault.type(0xA0B0, 2), 1200);
            Expect.same("the first of them", vault.byteAt(1198), 0xA0);
            Expect.same("the second of them", vault.byteAt(1199), 0xB0);
        });
        Expect.sentence("13", "a full file is a file, and has room again when it is cut", () -> {
            FrameVault vault = sized(1200).get();
            Expect.same("check", vault.check(0, 1200), DocModel.checkOf(bytes(1200)));
            Expect.refused(() -> vault, "a byte more", STATE, v -> v.type(1, 1));
            vault.cut(1199);
            Expect.same("a byte more", vault.type(1, 1), 1200);
            Expect.refused(() -> vault, "and one more", STATE, v -> v.type(1, 1));
        });
        Expect.sentence("13", "the one named first: IllegalArgumentException", () -> {
            for (int n : new int[] {Integer.MIN_VALUE, -1, 0, 9, Integer.MAX_VALUE}) {
                Expect.refused(sized(1200), "type of " + n, ARGUMENT, v -> v.type(5, n));
                Expect.refused(sized(1192), "type of " + n, ARGUMENT, v -> v.type(5, n));
            }
        });
    }

    private static void promise14() {
        Expect.sentence("14", "n is below 0, or it has not so many", () -> {
            for (int many : SIZES) {
                for (int n : new int[] {-2, -1, 0, 1, many - 1, many, many + 1, many + 2, 1199, 1200, 1201}) {
                    Expect.takenIf(n >= 0 && n <= many, sized(many), "cut(" + n + ") of " + many, ARGUMENT, v -> {
                        v.cut(n);
                        Vaults.hasFile("its first " + n, v, bytes(n));
                    });
                }
                for (int n : FAR) {
                    Expect.refused(sized(many), "cut(" + n + ")", ARGUMENT, v -> v.cut(n));
                }
            }
        });
        Expect.sentence("14", "what is cut off does not come back", () -> {
            FrameVault vault = sized(8).get();
            vault.cut(3);
            Expect.refused(() -> vault, "cut(4)", ARGUMENT, v -> v.cut(4));
            vault.cut(3);
            vault.cut(0);
            Expect.refused(() -> vault, "cut(1)", ARGUMENT, v -> v.cut(1));
            vault.cut(0);
            Expect.same("none", vault.size(), 0);
            Expect.same("a new first byte", vault.type(5, 1), 1);
            Expect.same("it", vault.byteAt(0), 5);
        });
    }

    private static void promise15() {
        Expect.sentence("15", "of none 65535", () -> {
            for (int many : SIZES) {
                for (int from : new int[] {0, many / 2, many}) {
                    Expect.taken(sized(many), "check(" + from + ", 0)", 65535, v -> v.check(from, 0));
                }
            }
        });
        Expect.sentence("15", "the check of the file's bytes from one on, so many", () -> {
            for (int many : SIZES) {
                for (int from : new int[] {0, 1, many / 2, many - 1, many}) {
                    for (int part : new int[] {1, 2, many / 3, many - from - 1, many - from}) {
                        if (from >= 0 && part >= 0 && part <= many - from) {
                            int[] some = java.util.Arrays.copyOfRange(bytes(many), from, from + part);
                            Expect.taken(sized(many), "check(" + from + ", " + part + ")", DocModel.checkOf(some),
                                    v -> v.check(from, part));
                        }
                    }
                }
            }
        });
        Expect.sentence("15", "within 16 bits: checks that are known from elsewhere", () -> {
            knownCheck(0xE1F0, 0);
            knownCheck(0xFF00, 255);
            knownCheck(0x1D0F, 0, 0);
            knownCheck(0xB915, 'A');
            knownCheck(0x29B1, '1', '2', '3', '4', '5', '6', '7', '8', '9');
            int[] many = new int[256];
            java.util.Arrays.fill(many, 'A');
            knownCheck(0xEA0B, many);
        });
        Expect.sentence("15", "a check behind its bytes makes the check 0", () -> {
            for (int many : new int[] {0, 1, 2, 255, 256, 1198}) {
                FrameVault vault = sized(many).get();
                vault.type(vault.check(0, many), 2);
                Expect.same("of all", vault.check(0, many + 2), 0);
            }
        });
    }

    private static void knownCheck(int due, int... bytes) {
        FrameVault vault = Vaults.withFile(bytes);
        Expect.same("of " + bytes.length + " bytes, the first " + bytes[0], vault.check(0, bytes.length), due);
    }

    private static void promise15Refuses() {
        Expect.sentence("15", "from is below 0 or above the file's size", () -> {
            for (int many : SIZES) {
                for (int from : new int[] {-2, -1, 0, many - 1, many, many + 1, many + 2}) {
                    Expect.takenIf(from >= 0 && from <= many, sized(many), "check(" + from + ", 0) of " + many, INDEX,
                            v -> Expect.same("of none", v.check(from, 0), 65535));
                }
                for (int from : FAR) {
                    Expect.refused(sized(many), "check(" + from + ", 0)", INDEX, v -> v.check(from, 0));
                    Expect.refused(sized(many), "check(" + from + ", MAX)", INDEX,
                            v -> v.check(from, Integer.MAX_VALUE));
                }
            }
        });
        Expect.sentence("15", "there are not so many from it on", () -> {
            for (int many : SIZES) {
                for (int from : new int[] {0, 1, many - 1, many}) {
                    for (int part = many - from - 1; part <= many - from + 2; part++) {
                        int p = part;
                        if (from >= 0 && from <= many && part >= 0) {
                            Expect.takenIf(part <= many - from, sized(many), "check(" + from + ", " + part + ") of " + many,
                                    INDEX, v -> v.check(from, p));
                        }
                    }
                }
                Expect.refused(sized(many), "check(0, MAX)", INDEX, v -> v.check(0, Integer.MAX_VALUE));
                Expect.refused(sized(many), "check(size, MAX)", INDEX, v -> v.check(many, Integer.MAX_VALUE));
            }
        });
        Expect.sentence("15", "many is below 0", () -> {
            for (int size : SIZES) {
                for (int many : new int[] {-1, -2, -1200, Integer.MIN_VALUE, Integer.MIN_VALUE + 1}) {
                    for (int from : new int[] {0, size / 2, size}) {
                        Expect.refused(sized(size), "check(" + from + ", " + many + ")", ARGUMENT,
                                v -> v.check(from, many));
                    }
                    for (int from : new int[] {-1, size + 1, Integer.MIN_VALUE, Integer.MAX_VALUE}) {
                        Expect.refused(sized(size), "both are wrong", INDEX, v -> v.check(from, many));
                    }
                }
            }
        });
    }
}
