import java.math.BigInteger;
import java.util.ArrayList;
import java.util.Arrays;
import java.util.List;

/**
 * The document's words on writing and reading, said once more and in another way: bits are a text,
 * low is one great number, and a slice is read by trying every value there could be.
 */
final class DocModel {
    private DocModel() {
    }

    /** A shape with frames: samples[frame][plane][y][x]. */
    static final class Picture {
        int width = 1;
        int height = 1;
        int planes = 1;
        int mode = 0;
        int slices = 1;
        List<Integer> times = new ArrayList<>();
        List<int[][][]> samples = new ArrayList<>();

        int[][][] add(int time) {
            times.add(time);
            samples.add(new int[planes][height][width]);
            return samples.get(samples.size() - 1);
        }
    }

    static int checkOf(int[] bytes) {
        int r = 65535;
        for (int b : bytes) {
            for (int bit = 7; bit >= 0; bit--) {
                boolean top = (r >> 15 & 1) != (b >> bit & 1);
                r = r << 1 & 65535;
                r = top ? r ^ 4129 : r;
            }
        }
        return r;
    }

    /** What codes the differences of one slice. */
    static final class Pen {
        private final int mode;
        private final Rules rules;
        private String bits = "";
        private BigInteger low = BigInteger.ZERO;
        private int range;
        private int times256 = 0;
        private final int[][] states;
        private final int[] sums;
        private final int[] counts;

        Pen(int mode) {
            this(mode, new Rules());
        }

        Pen(int mode, Rules rules) {
            this.mode = mode;
            this.rules = rules;
            this.range = rules.firstRange;
            this.states = new int[63 * 3][20];
            this.sums = new int[63 * 3];
            this.counts = new int[63 * 3];
            makeContextsNew();
        }

        private void makeContextsNew() {
            for (int[] own : states) {
                Arrays.fill(own, rules.firstState);
            }
            Arrays.fill(sums, rules.firstSum);
            Arrays.fill(counts, rules.firstCount);
        }

        /** The contexts of another slice, for rules by which they are not made new. */
        void goOnFrom(Pen before) {
            for (int context = 0; context < states.length; context++) {
                states[context] = before.states[context].clone();
                sums[context] = before.sums[context];
                counts[context] = before.counts[context];
            }
        }

        /** A copy that shares all states but those of the context that comes next. */
        private Pen(Pen pen, int context) {
            mode = pen.mode;
            rules = pen.rules;
            bits = pen.bits;
            low = pen.low;
            range = pen.range;
            times256 = pen.times256;
            states = pen.states.clone();
            states[context] = pen.states[context].clone();
            sums = pen.sums.clone();
            counts = pen.counts.clone();
        }

        Pen copyFor(int context) {
            return new Pen(this, context);
        }

        void put(int context, int e) {
            if (mode == 0) {
                putBits(context, e);
            } else {
                putRanges(states[context], e);
            }
        }

        private static String digits(int number, int many) {
            String text = "0".repeat(many) + Integer.toBinaryString(number);
            return text.substring(text.length() - many);
        }

        private void putBits(int context, int e) {
            int k = 0;
            while (counts[context] * Math.pow(2, k) < sums[context] + rules.sumMustBeBelow) {
                k++;
            }
            int m = e >= 0 ? 2 * e : -2 * e - 1;
            int w = m / (1 << k);
            bits += w < rules.mostZeros ? "0".repeat(w) + "1" + digits(m, k)
                    : "0".repeat(rules.mostZeros) + digits(m, rules.wholeBits);
            sums[context] += Math.abs(e);
            counts[context] += 1;
            if (counts[context] == rules.fullCount) {
                counts[context] = rules.halfCount;
                sums[context] = (sums[context] + rules.halfRoundsUp) / 2;
            }
        }

        private void putRanges(int[] own, int e) {
            bit(own, 0, e == 0);
            if (e == 0) {
                return;
            }
            int a = Math.abs(e);
            String binary = Integer.toBinaryString(a);
            int n = binary.length() - 1;
            for (int i = 0; i < n; i++) {
                bit(own, 1 + i, true);
            }
            if (n < rules.mostPower) {
                bit(own, 1 + n, false);
            }
            for (int i = n - 1; i >= 0; i--) {
                bit(own, rules.firstDigitState + i, binary.charAt(n - i) == '1');
            }
            bit(own, rules.signState, e < 0);
        }

        private void bit(int[] own, int which, boolean one) {
            int s = own[which];
            int h = (range * s) >> 8;
            if (one) {
                low = low.add(BigInteger.valueOf(range - h));
                range = h;
                own[which] = s + ((rules.stateTop - s) >> rules.growShift);
            } else {
                range = range - h;
                own[which] = s - (s >> rules.fallShift);
            }
            while (range < rules.leastRange) {
                range = range * 256;
                low = low.multiply(BigInteger.valueOf(256));
                times256++;
            }
        }

        int[] bytes() {
            int[] bytes = new int[mode == 0 ? (bits.length() + 7) / 8 : times256 + rules.moreDigits];
            String padded = bits + rules.lastBits;
            BigInteger rest = low;
            for (int i = bytes.length - 1; i >= 0; i--) {
                if (mode == 0) {
                    bytes[i] = Integer.parseInt(padded.substring(8 * i, 8 * i + 8), 2);
                } else {
                    bytes[i] = rest.intValue() & 255;
                    rest = rest.shiftRight(8);
                }
            }
            return bytes;
        }

        private static String textOf(int[] slice) {
            StringBuilder all = new StringBuilder();
            for (int b : slice) {
                for (int bit = 7; bit >= 0; bit--) {
                    all.append(b >> bit & 1);
                }
            }
            return all.toString();
        }

        /** Whether a slice with these bytes could go on from here. */
        boolean mayBegin(int[] slice) {
            if (mode == 0) {
                return textOf(slice).startsWith(bits);
            }
            int rest = slice.length - 2 - times256;
            if (rest < 0) {
                return false;
            }
            BigInteger number = BigInteger.ZERO;
            for (int b : slice) {
                number = number.shiftLeft(8).add(BigInteger.valueOf(b));
            }
            BigInteger above = number.shiftRight(8 * rest).subtract(low);
            return above.signum() >= 0 && above.compareTo(BigInteger.valueOf(range)) < 0;
        }
    }

    /** The values of a place of the samples. */
    private static int[] valuesOf(int[][][] samples, int y, int x, Rules rules) {
        if (samples.length == 1) {
            return new int[] {samples[0][y][x]};
        }
        int r = samples[0][y][x];
        int g = samples[1][y][x];
        int b = samples[2][y][x];
        return new int[] {g + rules.quarter.applyAsInt(b - g + r - g), b - g, r - g};
    }

    /** The guess and c at a place of a plane of values whose slice begins at row first. */
    static int[] guessAndContext(int[][] plane, int first, int y, int x, Rules rules) {
        int last = plane[y].length - 1;
        boolean top = y == 0 || y == first && !rules.looksAboveTheSlice;
        int t = top ? 0 : plane[y - 1][x];
        int l = x > 0 ? plane[y][x - 1] : rules.leftIsNone ? 0 : t;
        int tl = top ? 0 : x > 0 ? plane[y - 1][x - 1] : rules.aboveLeftIsNone ? 0 : t;
        int tr = top ? 0 : x < last ? plane[y - 1][x + 1] : rules.aboveRightIsNone ? 0 : t;
        int[] three = {l, t, l + t - tl};
        Arrays.sort(three);
        return new int[] {rules.guessIsNotClamped ? l + t - tl : three[1],
            25 * rules.q[0].applyAsInt(l - tl) + 5 * rules.q[1].applyAsInt(tl - t) + rules.q[2].applyAsInt(t - tr)};
    }

    /** The context in its set and e, turned where c is below 0. */
    private static int[] contextAndE(int plane, int value, int[] guessAndContext, Rules rules) {
        int m = rules.modulus[plane];
        int least = -m / 2 + rules.leastIsHigher[plane];
        int e = value - guessAndContext[0];
        while (e < least) {
            e += m;
        }
        while (e > least + m - 1) {
            e -= m;
        }
        int c = guessAndContext[1];
        if (c < rules.turnedBelow) {
            c = -c;
            e = e == -m / 2 && !rules.leastIsTurned[plane] ? e : -e;
        }
        return new int[] {63 * rules.set[plane] + c, e};
    }

    static int[] sliceOf(int[][][] samples, int mode, int first, int end) {
        return written(samples, new Pen(mode), first, end, new Rules()).bytes();
    }

    private static Pen written(int[][][] samples, Pen pen, int first, int end, Rules rules) {
        int width = samples[0][0].length;
        int[][][] values = new int[samples.length][samples[0].length][width];
        for (int y = 0; y < end; y++) {
            for (int x = 0; x < width; x++) {
                int[] here = valuesOf(samples, y, x, rules);
                for (int plane = 0; plane < values.length; plane++) {
                    values[plane][y][x] = here[plane];
                }
            }
        }
        for (int plane = 0; plane < values.length; plane++) {
            for (int y = first; y < end; y++) {
                for (int x = 0; x < width; x++) {
                    int[] around = guessAndContext(values[plane], first, y, x, rules);
                    int[] code = contextAndE(plane, values[plane][y][x], around, rules);
                    pen.put(code[0], code[1]);
                }
            }
        }
        return pen;
    }

    /** Puts into the samples those that give the slice: whether there are any. */
    static boolean findSamples(int[] slice, int[][][] samples, int mode, int first, int end) {
        int width = samples[0][0].length;
        int[][][] values = new int[samples.length][samples[0].length][width];
        Rules rules = new Rules();
        Pen pen = new Pen(mode);
        for (int plane = 0; plane < values.length; plane++) {
            for (int y = first; y < end; y++) {
                for (int x = 0; x < width; x++) {
                    int[] around = guessAndContext(values[plane], first, y, x, rules);
                    Pen next = null;
                    for (int v = plane == 0 ? 0 : -255; v <= 255 && next == null; v++) {
                        int[] code = contextAndE(plane, v, around, rules);
                        Pen trial = pen.copyFor(code[0]);
                        trial.put(code[0], code[1]);
                        if (trial.mayBegin(slice)) {
                            next = trial;
                            values[plane][y][x] = v;
                        }
                    }
                    if (next == null) {
                        return false;
                    }
                    pen = next;
                }
            }
        }
        return Arrays.equals(pen.bytes(), slice) && toSamples(values, samples, first, end);
    }

    private static boolean toSamples(int[][][] values, int[][][] samples, int first, int end) {
        boolean fits = true;
        for (int y = first; y < end; y++) {
            for (int x = 0; x < samples[0][0].length; x++) {
                int v0 = values[0][y][x];
                int g = samples.length == 1 ? v0
                        : v0 - Math.floorDiv(values[1][y][x] + values[2][y][x], 4);
                int[] here = samples.length == 1 ? new int[] {g}
                        : new int[] {g + values[2][y][x], g, g + values[1][y][x]};
                for (int plane = 0; plane < samples.length; plane++) {
                    samples[plane][y][x] = here[plane];
                    fits &= here[plane] >= 0 && here[plane] <= 255;
                }
            }
        }
        return fits;
    }

    // Writing

    static int[] join(int[]... parts) {
        int[] all = new int[0];
        for (int[] part : parts) {
            int before = all.length;
            all = Arrays.copyOf(all, before + part.length);
            System.arraycopy(part, 0, all, before, part.length);
        }
        return all;
    }

    static int[] big(int number) {
        return new int[] {number >> 8, number & 255};
    }

    /** An element, its size of one byte, or of two if so asked or if one cannot be. */
    static int[] element(int id, boolean wide, int[]... parts) {
        int[] content = join(parts);
        int[] size = {128 + content.length};
        if (wide || content.length > 127) {
            size = new int[] {64 + content.length / 256, content.length % 256};
        }
        return join(new int[] {id}, size, content);
    }

    static int[] element(int id, int[]... parts) {
        return elementBy(new Rules(), id, parts);
    }

    static int[] sealed(int[] slice) {
        return join(big(slice.length), slice, big(checkOf(slice)));
    }

    private static int[] elementBy(Rules rules, int id, int[]... parts) {
        return element(id, join(parts).length > rules.mostInOneByte, parts);
    }

    static int[] blockOf(Picture picture, int frame) {
        return blockOf(picture, frame, new Rules());
    }

    static int[] blockOf(Picture picture, int frame, Rules rules) {
        int[] block = new int[0];
        int n = picture.slices;
        Pen before = null;
        for (int i = 0; i < n; i++) {
            int first = (i * picture.height + rules.rowsRoundUp * (n - 1)) / n;
            int end = ((i + 1) * picture.height + rules.rowsRoundUp * (n - 1)) / n;
            Pen pen = new Pen(picture.mode, rules);
            if (before != null && rules.contextsGoOn) {
                pen.goOnFrom(before);
            }
            before = written(picture.samples.get(frame), pen, first, end, rules);
            block = join(block, sealed(pen.bytes()));
        }
        return block;
    }

    static int[] fileOf(Picture picture) {
        return fileOf(picture, new Rules());
    }

    static int[] fileOf(Picture picture, Rules rules) {
        int[] body = element(174, element(176, new int[] {picture.width}), element(186, new int[] {picture.height}),
                element(83, new int[] {picture.planes}), element(84, new int[] {16 * picture.mode + picture.slices}));
        for (int frame = 0; frame < picture.times.size(); frame++) {
            int[] time = element(231, big(picture.times.get(frame)));
            int[] block = elementBy(rules, 163, blockOf(picture, frame, rules));
            body = join(body, elementBy(rules, 31, time, block));
        }
        return join(element(26, element(66, new int[] {1})), elementBy(rules, 24, body));
    }

    // Reading

    /** Where a file fails; or -1, and found[0] is the picture that it has. */
    static int read(int[] file, Picture[] found) {
        try {
            found[0] = new Reader(file).picture();
            return -1;
        } catch (Fault fault) {
            return fault.place;
        }
    }

    /** Where a file fails. */
    static final class Fault extends RuntimeException {
        private static final long serialVersionUID = 1;
        final int place;

        Fault(int place) {
            this.place = place;
        }
    }

    /** Reads a file by going down into the elements, and throws at the first fault. */
    static final class Reader {
        private final int[] file;
        private int at = 0;
        private int sizeAt;
        private final Picture picture = new Picture();

        Reader(int[] file) {
            this.file = file;
        }

        Picture picture() {
            int head = down(26, file.length);
            number(66, 1, head, 1, 1);
            up(head);
            int body = down(24, file.length);
            int track = down(174, body);
            picture.width = number(176, 1, track, 1, 2, 3, 4, 5, 6);
            picture.height = number(186, 1, track, 1, 2, 3, 4, 5, 6);
            picture.planes = number(83, 1, track, 1, 3);
            int coding = picture.height == 1 ? number(84, 1, track, 1, 17)
                    : picture.height == 2 ? number(84, 1, track, 1, 2, 17, 18)
                    : number(84, 1, track, 1, 2, 3, 17, 18, 19);
            picture.mode = coding >> 4;
            picture.slices = coding & 15;
            up(track);
            while (passOver(body) < body) {
                if (picture.times.size() == 3) {
                    throw new Fault(at);
                }
                frame(body);
            }
            up(body);
            up(file.length);
            return picture;
        }

        private void frame(int body) {
            int end = down(31, body);
            int stop = down(231, end);
            must(stop == at + 2, sizeAt);
            int time = file[at] * 256 + file[at + 1];
            int count = picture.times.size();
            must(count == 0 || time > picture.times.get(count - 1), at);
            at = stop;
            int block = down(163, end);
            int[][][] samples = picture.add(time);
            for (int i = 0; i < picture.slices; i++) {
                slice(samples, i, block);
            }
            must(at == block, at);
            up(end);
        }

        private void slice(int[][][] samples, int i, int block) {
            must(at + 2 <= block, at);
            int start = at + 2;
            int end = start + file[at] * 256 + file[at + 1];
            must(end + 2 <= block, at);
            int[] slice = Arrays.copyOfRange(file, start, end);
            must(checkOf(slice) == file[end] * 256 + file[end + 1], end);
            int first = i * picture.height / picture.slices;
            int stop = (i + 1) * picture.height / picture.slices;
            must(findSamples(slice, samples, picture.mode, first, stop), start);
            at = end + 2;
        }

        private static void must(boolean holds, int place) {
            if (!holds) {
                throw new Fault(place);
            }
        }

        private int passOver(int end) {
            while (at < end && file[at] == 236) {
                at = into(end);
            }
            return at;
        }

        /** From an id to what the element has: where that ends. */
        private int into(int end) {
            at++;
            sizeAt = at;
            must(at < end, at);
            int first = file[at];
            must(first >= 64 && first != 255, at);
            if (first >= 128) {
                must(at + 1 + first - 128 <= end, at);
                at++;
                return at + first - 128;
            }
            must(at + 1 < end, at);
            int many = (first - 64) * 256 + file[at + 1];
            must(at + 2 + many <= end, at);
            at += 2;
            return at + many;
        }

        private int down(int id, int end) {
            passOver(end);
            must(at < end && file[at] == id, at);
            return into(end);
        }

        private void up(int end) {
            passOver(end);
            must(at == end, at);
        }

        private int number(int id, int bytes, int end, int... may) {
            int stop = down(id, end);
            must(stop == at + bytes, sizeAt);
            boolean found = false;
            for (int m : may) {
                found |= file[at] == m;
            }
            must(found, at);
            at = stop;
            return file[stop - 1];
        }
    }
}
