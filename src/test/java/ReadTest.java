import java.util.Arrays;
import java.util.HashSet;
import java.util.Random;
import java.util.Set;

/** Promise 9: read, by files made by hand and against the model of the document. */
public final class ReadTest {
    private static final int NONE = FrameVault.NONE;

    public static void main(String[] args) {
        keepsWhatItRead();
        staysWhenItFails();
        everyCut();
        numbers();
        sizes();
        emptyElements();
        frames();
        slices();
        allSlicesOfOnePlace();
        valuesThatAreNoSamples();
        againstModel();
        Expect.end();
    }

    private static int[] b(int... bytes) {
        return bytes;
    }

    private static int[] e(int id, int[]... parts) {
        return DocModel.element(id, parts);
    }

    private static int[] wide(int id, int[]... parts) {
        return DocModel.element(id, true, parts);
    }

    private static final int[] HEAD = e(26, e(66, b(1)));

    private static int[] track(int width, int height, int planes, int coding) {
        return e(174, e(176, b(width)), e(186, b(height)), e(83, b(planes)), e(84, b(coding)));
    }

    /** A frame of one place with sample 0, in mode 0. */
    private static int[] dot(int time) {
        return e(31, e(231, DocModel.big(time)), e(163, DocModel.sealed(b(0x80))));
    }

    private static int[] file(int[]... parts) {
        return DocModel.join(parts);
    }

    private static void due(String what, int place, int[]... parts) {
        FrameVault vault = Vaults.withFile(file(parts));
        int check = vault.check(0, vault.size());
        Expect.same(what, vault.read(), place);
        Expect.same(what + ": the file stays", vault.check(0, vault.size()), check);
        Expect.same(what + ": the model", DocModel.read(file(parts), new DocModel.Picture[1]), place);
    }

    private static void keepsWhatItRead() {
        FrameVault vault = new FrameVault();
        vault.shape(3, 2, 3);
        vault.frame(4);
        vault.frame(65535);
        for (int plane = 0; plane < 3; plane++) {
            for (int x = 0; x < 3; x++) {
                vault.set(1, plane, x, 1, 80 * x + 31 * plane);
            }
        }
        for (int mode = 0; mode < 2; mode++) {
            vault.write(mode, 2);
            String before = Expect.stateOf(vault);
            vault.shape(6, 6, 1);
            vault.frame(0);
            vault.set(0, 0, 5, 5, 1);
            Expect.same("read", vault.read(), NONE);
            Expect.same("what was written", Expect.stateOf(vault), before);
            Expect.same("read again", vault.read(), NONE);
            Expect.same("what was written", Expect.stateOf(vault), before);
        }
        vault.shape(1, 1, 1);
        vault.write(0, 1);
        vault.frame(1);
        Expect.same("read of no frames", vault.read(), NONE);
        Expect.same("no frames", vault.about(0), 0);
    }

    private static void staysWhenItFails() {
        FrameVault vault = new FrameVault();
        vault.shape(2, 2, 1);
        vault.frame(4);
        vault.set(0, 0, 1, 1, 9);
        vault.write(1, 2);
        vault.shape(1, 2, 3);
        vault.frame(7);
        vault.set(0, 2, 0, 1, 200);
        vault.poke(vault.size() - 1, vault.byteAt(vault.size() - 1) ^ 1);
        String before = Expect.stateOf(vault);
        Expect.same("the last check", vault.read(), vault.size() - 2);
        Expect.same("shape, frames and file stay", Expect.stateOf(vault), before);
        vault.cut(vault.size() - 1);
        before = Expect.stateOf(vault);
        Expect.same("beyond the end", vault.read(), 6);
        Expect.same("shape, frames and file stay", Expect.stateOf(vault), before);
    }

    /** However short a file is, it fails where the document says; sizes tell early what is missing. */
    private static void everyCut() {
        int[] whole = file(HEAD, e(24, track(1, 1, 1, 1), dot(5)));
        int[] due = {0, 1, 1, 1, 1, 5, 6};
        for (int n = 0; n < whole.length; n++) {
            due("cut at " + n, n < due.length ? due[n] : 6, Arrays.copyOf(whole, n));
        }
        due("whole", NONE, whole);
    }

    private static void numbers() {
        int[] good = file(HEAD, e(24, track(2, 2, 1, 1)));
        due("good", NONE, good);
        for (int value = 0; value < 256; value++) {
            pokeDue(good, 4, value, value == 1 ? NONE : 4);
            pokeDue(good, 11, value, value >= 1 && value <= 6 ? NONE : 11);
            pokeDue(good, 17, value, value == 1 || value == 3 ? NONE : 17);
            boolean coding = value == 1 || value == 2 || value == 17 || value == 18;
            pokeDue(good, 20, value, coding ? NONE : 20);
            pokeDue(good, 14, value, value >= 1 && value <= 6 ? NONE : 14);
        }
        due("three slices of two rows", 20, HEAD, e(24, track(2, 2, 1, 3)));
        due("three slices of three rows", NONE, HEAD, e(24, track(2, 3, 1, 3)));
        due("no slices", 20, HEAD, e(24, track(2, 3, 1, 16)));
        due("mode 2", 20, HEAD, e(24, track(2, 3, 1, 33)));
        for (int id : new int[] {0, 2, 5, 7, 9, 12, 15, 18}) {
            pokeDue(good, id, 1, id);
        }
    }

    private static void pokeDue(int[] good, int k, int value, int place) {
        int[] bytes = good.clone();
        bytes[k] = value;
        due("byte " + k + " is " + value, place, bytes);
    }

    private static void sizes() {
        int[] body = file(track(1, 1, 1, 1), dot(5));
        due("wide sizes", NONE, wide(26, wide(66, b(1))), wide(24, wide(174, wide(176, b(1)), wide(186, b(1)),
                wide(83, b(1)), wide(84, b(1))), wide(31, wide(231, b(0, 9)),
                wide(163, DocModel.sealed(b(0x80))))));
        for (int first = 0; first < 128; first++) {
            due("size " + first, 1, b(26, first, 200, 129, 1), e(24, body));
        }
        due("size 255", 1, b(26, 255, 66, 129, 1), e(24, body));
        due("size not there", 1, b(26));
        due("size half there", 1, b(26, 64));
        due("version of no bytes", 3, e(26, e(66)), e(24, body));
        due("version of two bytes", 3, e(26, e(66, b(1, 1))), e(24, body));
        due("version of two bytes, wide", 3, e(26, wide(66, b(1, 1))), e(24, body));
        due("version beyond its parent", 3, b(26, 130, 66, 129, 1), e(24, body));
        due("size behind its parent", 3, b(26, 129, 66, 129, 1), e(24, body));
        due("second byte behind its parent", 3, b(26, 130, 66, 64, 1, 1), e(24, body));
        due("no version", 2, b(26, 128), e(24, body));
        due("the version behind its parent", 2, b(26, 128), e(66, b(1)), e(24, body));
        due("size 255 with 127 bytes", 1, b(236, 255), new int[127], HEAD, e(24, body));
        due("127 bytes", NONE, wide(236, new int[127]), HEAD, e(24, body));
        due("255 bytes", NONE, e(236, new int[255]), HEAD, e(24, body));
        due("256 bytes", NONE, e(236, new int[256]), HEAD, e(24, body));
        due("a file of 1200 bytes", NONE, HEAD, e(24, track(1, 1, 1, 1)), e(236, new int[1176]));
        due("a file of 1200 bytes, beyond its end", 22, HEAD, e(24, track(1, 1, 1, 1)), b(236, 68, 153),
                new int[1176]);
        due("time of one byte", 24, HEAD, e(24, track(1, 1, 1, 1), e(31, e(231, b(9)), e(163))));
        due("time of three bytes", 24, HEAD, e(24, track(1, 1, 1, 1), e(31, e(231, b(0, 0, 9)), e(163))));
        due("no time", 23, HEAD, e(24, track(1, 1, 1, 1), e(31)));
        due("no block", 27, HEAD, e(24, track(1, 1, 1, 1), e(31, e(231, b(0, 9)))));
        due("no body", 5, HEAD);
        due("no track", 7, HEAD, e(24));
        due("a second version", 5, e(26, e(66, b(1)), e(66, b(1))), e(24, body));
        due("a fifth number", 21, HEAD, e(24, e(174, e(176, b(1)), e(186, b(1)), e(83, b(1)), e(84, b(1)),
                e(84, b(1)))));
        due("three numbers", 18, HEAD, e(24, e(174, e(176, b(1)), e(186, b(1)), e(83, b(1)))));
        due("a second body", 21, HEAD, e(24, track(1, 1, 1, 1)), e(24, track(1, 1, 1, 1)));
        due("a byte more", 21, HEAD, e(24, track(1, 1, 1, 1)), b(0));
    }

    private static void emptyElements() {
        int[] none = e(236);
        int[] some = wide(236, b(26, 24, 255));
        int[] block = e(163, DocModel.sealed(b(0x80)));
        due("everywhere", NONE, none, e(26, some, e(66, b(1)), none), some, none,
                e(24, none, e(174, none, e(176, b(1)), some, e(186, b(1)), none, e(83, b(1)), none, none, e(84, b(1)),
                some), some, e(31, none, e(231, b(0, 9)), none, block, none), none,
                e(31, e(231, b(0, 10)), some, block), some), none, some);
        due("alone", 6, e(236, b(1, 2, 3, 4)));
        due("its size is missing", 22, HEAD, e(24, track(1, 1, 1, 1)), b(236));
        due("its size is 255", 22, HEAD, e(24, track(1, 1, 1, 1)), b(236, 255));
        due("its size is too small", 22, HEAD, e(24, track(1, 1, 1, 1)), b(236, 63, 0));
        due("it goes beyond the file", 22, HEAD, e(24, track(1, 1, 1, 1)), b(236, 129));
        due("it goes beyond its parent", 6, e(26, e(66, b(1)), b(236, 129)), e(24, track(1, 1, 1, 1)));
        due("its size is behind its parent", 6, b(26, 132, 66, 129, 1, 236), e(24, track(1, 1, 1, 1)));
        due("not in a number", 3, e(26, e(66, b(1), none)), e(24, track(1, 1, 1, 1)));
        due("not in a block", 34, HEAD, e(24, track(1, 1, 1, 1),
                e(31, e(231, b(0, 9)), e(163, DocModel.sealed(b(0x80)), none))));
    }

    private static void frames() {
        int[] one = track(1, 1, 1, 1);
        due("three", NONE, HEAD, e(24, one, dot(0), dot(1), dot(65535)));
        due("a fourth", 60, HEAD, e(24, one, dot(0), dot(1), dot(2), dot(3)));
        due("a fourth behind an empty one", 62, HEAD, e(24, one, dot(0), dot(1), dot(2), e(236), dot(3)));
        due("another id", 34, HEAD, e(24, one, dot(0), e(32)));
        due("the same time", 38, HEAD, e(24, one, dot(256), dot(256)));
        due("an earlier time", 38, HEAD, e(24, one, dot(256), dot(255)));
        due("a later time", NONE, HEAD, e(24, one, dot(255), dot(256)));
        due("a frame with two blocks", 34, HEAD, e(24, one,
                e(31, e(231, b(0, 9)), e(163, DocModel.sealed(b(0x80))), e(163, DocModel.sealed(b(0x80))))));
        due("a frame in the track", 21, HEAD, e(24, e(174, e(176, b(1)), e(186, b(1)), e(83, b(1)), e(84, b(1)),
                dot(1))));
        due("a frame in a frame", 34, HEAD, e(24, one,
                e(31, e(231, b(0, 9)), e(163, DocModel.sealed(b(0x80))), dot(10))));
        due("the block first", 23, HEAD, e(24, one, e(31, e(163, DocModel.sealed(b(0x80))), e(231, b(0, 9)))));
    }

    private static void blockDue(String what, int place, int coding, int[]... parts) {
        due(what, place, HEAD, e(24, track(1, 2, 1, coding), e(31, e(231, b(0, 9)), e(163, parts))));
    }

    private static void slices() {
        int[] zero = DocModel.sealed(b(0x80));
        blockDue("two slices", NONE, 2, zero, zero);
        blockDue("no slice", 29, 2);
        blockDue("half a size", 29, 2, b(0));
        blockDue("no room for a check", 29, 2, b(0, 0));
        blockDue("no room for all of a check", 29, 2, b(0, 0, 255));
        blockDue("one byte too long", 29, 2, b(0, 2, 0x80), DocModel.big(DocModel.checkOf(b(0x80))));
        blockDue("much too long", 29, 2, b(255, 255, 0x80), DocModel.big(DocModel.checkOf(b(0x80))));
        blockDue("a second one missing", 34, 2, zero);
        blockDue("a second one too long", 34, 2, zero, b(0, 1, 0x80, 1));
        blockDue("a third one", 39, 2, zero, zero, zero);
        blockDue("a byte more", 39, 2, zero, zero, b(0));
        blockDue("the check, first byte", 32, 2, b(0, 1, 0x80, zero[3] ^ 1, zero[4]), zero);
        blockDue("the check, second byte", 32, 2, b(0, 1, 0x80, zero[3], zero[4] ^ 128), zero);
        blockDue("the check comes before the bytes", 32, 2, b(0, 1, 0x00, zero[3], zero[4]), zero);
        blockDue("no bytes", 31, 2, b(0, 0, 255, 255), zero);
        blockDue("no bytes, and a wrong check", 31, 2, b(0, 0, 255, 254), zero);
        blockDue("wrong bits at the end", 31, 2, DocModel.sealed(b(0x81)), zero);
        blockDue("far too many bytes", 34, 2, DocModel.sealed(new int[300]), zero);
        blockDue("256 bytes, and a wrong check", 290, 2, b(1, 0), new int[256], b(1, 2), zero);
        blockDue("a byte too many", 31, 2, DocModel.sealed(b(0x80, 0)), zero);
        blockDue("too few bytes", 31, 2, DocModel.sealed(b(0)), zero);
        blockDue("the second one is wrong", 36, 2, zero, DocModel.sealed(b(0x83)));
        blockDue("the first fault is told", 31, 2, DocModel.sealed(b(0x83)), b(0, 9));
        blockDue("the other mode", 31, 18, zero, zero);
        blockDue("ranges", NONE, 18, DocModel.sealed(b(0x7F, 0x80)), DocModel.sealed(b(0x1F, 0xE0)));
        blockDue("ranges, low is not the lowest", 31, 18, DocModel.sealed(b(0x7F, 0x81)), zero);
        blockDue("ranges, above all", 31, 18, DocModel.sealed(b(0xFF, 0xFF)), zero);
        blockDue("ranges, one byte", 31, 18, DocModel.sealed(b(0x7F)), zero);
        blockDue("ranges, three bytes", 31, 18, DocModel.sealed(b(0x7F, 0x80, 0)), zero);
        blockDue("ranges, no bytes", 31, 18, b(0, 0, 255, 255), zero);
    }

    /** With one place all slices there are can be listed: these are read, and no others. */
    private static void allSlicesOfOnePlace() {
        for (int mode = 0; mode < 2; mode++) {
            Set<String> written = new HashSet<>();
            for (int sample = 0; sample < 256; sample++) {
                written.add(Arrays.toString(DocModel.sliceOf(new int[][][] {{{sample}}}, mode, 0, 1)));
            }
            Expect.same("each sample has its slice", written.size(), 256);
            int found = 0;
            for (int length = 1; length <= 3; length++) {
                int step = length == 3 ? 8 : 1;
                for (int number = 0; number < 1 << 8 * length; number += step) {
                    int[] slice = new int[length];
                    for (int i = 0; i < length; i++) {
                        slice[i] = number >> 8 * (length - 1 - i) & 255;
                    }
                    boolean isOne = written.contains(Arrays.toString(slice));
                    if (isOne || length < 3 || number % 3847 == 0 || number < 8192) {
                        found += isOne ? 1 : 0;
                        Expect.same(mode + " " + Arrays.toString(slice), readOnePlace(mode, slice), isOne ? NONE : 31);
                    }
                }
            }
            Expect.yes("most slices were met", found > 100);
        }
    }

    private static int readOnePlace(int mode, int[] slice) {
        return Vaults.withFile(file(HEAD, e(24, track(1, 1, 1, 16 * mode + 1),
                e(31, e(231, b(0, 9)), e(163, DocModel.sealed(slice)))))).read();
    }

    /** Values can be coded that no samples give: such slices fail. */
    private static void valuesThatAreNoSamples() {
        int[][] some = {{0, 0, 0}, {128, -1, 0}, {0, -1, 0}, {0, 1, 0}, {0, 4, 0}, {255, 0, 0}, {255, 0, 4}, {255, 1, 1},
            {255, -4, 0}, {0, -256, 0}, {255, -256, -256}, {128, -256, 255}, {100, 255, -255}, {127, 255, 255},
            {127, 255, 0}, {63, 255, 0}, {63, 0, 255}, {64, 0, 255}, {191, -255, 0}, {192, 0, -255}, {191, 0, -255}};
        int good = 0;
        for (int[] values : some) {
            for (int mode = 0; mode < 2; mode++) {
                DocModel.Pen pen = new DocModel.Pen(mode);
                pen.put(0, values[0] > 127 ? values[0] - 256 : values[0]);
                pen.put(63, values[1]);
                pen.put(63, values[2]);
                int g = values[0] - Math.floorDiv(values[1] + values[2], 4);
                boolean fits = isSample(g) && isSample(g + values[1]) && isSample(g + values[2]);
                good += fits ? 1 : 0;
                due("values " + Arrays.toString(values) + " mode " + mode, fits ? NONE : 31, HEAD,
                        e(24, track(1, 1, 3, 16 * mode + 1),
                        e(31, e(231, b(0, 9)), e(163, DocModel.sealed(pen.bytes())))));
            }
        }
        Expect.yes("some are good and some are not", good > 0 && good < 2 * some.length);
    }

    private static boolean isSample(int v) {
        return v >= 0 && v <= 255;
    }

    /** Files with small and great faults, each read by the class and by the model. */
    private static void againstModel() {
        int good = 0;
        for (int seed = 0; seed < 4000; seed++) {
            ChanceFiles files = new ChanceFiles(new Random(seed));
            int[] bytes = files.next();
            DocModel.Picture[] found = new DocModel.Picture[1];
            int due = DocModel.read(bytes, found);
            FrameVault vault = Vaults.withFile(bytes);
            vault.shape(2, 1, 1);
            vault.frame(3);
            vault.set(0, 0, 1, 0, 5);
            String before = Expect.stateOf(vault);
            Expect.same("file of seed " + seed, vault.read(), due);
            if (due == NONE) {
                good++;
                Vaults.hasPicture("file of seed " + seed, vault, found[0]);
            } else {
                Expect.same("seed " + seed + ": the state", Expect.stateOf(vault), before);
            }
        }
        Expect.yes("some files are good", good > 400);
    }
}
