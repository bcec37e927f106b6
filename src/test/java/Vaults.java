/** Brings pictures and files into vaults, in few calls, and compares them with what is due. */
final class Vaults {
    private Vaults() {
    }

    static void typeAll(FrameVault vault, int[] bytes) {
        for (int k = 0; k < bytes.length; k += 8) {
            int many = Math.min(8, bytes.length - k);
            long word = 0;
            for (int i = k; i < k + many; i++) {
                word = word << 8 | bytes[i];
            }
            vault.type(word, many);
        }
    }

    static FrameVault withFile(int... bytes) {
        FrameVault vault = new FrameVault();
        typeAll(vault, bytes);
        return vault;
    }

    static FrameVault withPicture(DocModel.Picture picture) {
        FrameVault vault = new FrameVault();
        vault.shape(picture.width, picture.height, picture.planes);
        for (int frame = 0; frame < picture.times.size(); frame++) {
            vault.frame(picture.times.get(frame));
            for (int plane = 0; plane < picture.planes; plane++) {
                for (int y = 0; y < picture.height; y++) {
                    for (int x = 0; x < picture.width; x++) {
                        vault.set(frame, plane, x, y, picture.samples.get(frame)[plane][y][x]);
                    }
                }
            }
        }
        return vault;
    }

    /** The checks of all runs of eight bytes stand for the bytes, for the calls are limited. */
    static void hasFile(String what, FrameVault vault, int[] bytes) {
        Expect.same(what + ": size", vault.size(), bytes.length);
        for (int k = 0; k < bytes.length && vault.size() == bytes.length; k += 8) {
            int many = Math.min(8, bytes.length - k);
            int[] part = java.util.Arrays.copyOfRange(bytes, k, k + many);
            Expect.same(what + ": check from " + k, vault.check(k, many), DocModel.checkOf(part));
        }
    }

    static void hasPicture(String what, FrameVault vault, DocModel.Picture picture) {
        Expect.same(what + ": frames", vault.about(0), picture.times.size());
        Expect.same(what + ": width", vault.about(1), picture.width);
        Expect.same(what + ": height", vault.about(2), picture.height);
        Expect.same(what + ": planes", vault.about(3), picture.planes);
        if (vault.about(1) != picture.width || vault.about(2) != picture.height || vault.about(3) != picture.planes) {
            return;
        }
        for (int frame = 0; frame < picture.times.size() && frame < vault.about(0); frame++) {
            Expect.same(what + ": time", vault.time(frame), picture.times.get(frame));
            for (int plane = 0; plane < picture.planes; plane++) {
                for (int y = 0; y < picture.height; y++) {
                    for (int x = 0; x < picture.width; x++) {
                        Expect.same(what + ": sample", vault.get(frame, plane, x, y),
                                picture.samples.get(frame)[plane][y][x]);
                    }
                }
            }
        }
    }
}
