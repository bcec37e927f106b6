import java.util.Arrays;

/**
 * Small pictures kept without loss, in a file of nested elements that is written, and read or
 * refused at the byte that is not as it must be.
 */
public final class FrameVault {
    public static final int NONE = -1;

    private static final int MOST_FRAMES = 3;
    private static final int MOST_PLANES = 3;
    private static final int MOST_SIDE = 6;
    private static final int PLANE_PLACES = MOST_SIDE * MOST_SIDE;
    private static final int FRAME_PLACES = MOST_PLANES * PLANE_PLACES;
    private static final int MOST_TIME = 65535;
    private static final int MOST_SAMPLE = 255;
    private static final int MOST_BYTE = 255;
    private static final int MOST_BYTES = 1200;
    private static final int MOST_SLICES = 3;
    private static final int CONTEXTS_IN_SET = 63;
    private static final int CONTEXTS = 2 * CONTEXTS_IN_SET;

    private static final int BITS = 0;
    private static final int RANGES = 1;

    private static final int HEAD = 26;
    private static final int VERSION = 66;
    private static final int BODY = 24;
    private static final int TRACK = 174;
    private static final int WIDTH = 176;
    private static final int HEIGHT = 186;
    private static final int PLANES = 83;
    private static final int CODING = 84;
    private static final int FRAME = 31;
    private static final int TIME = 231;
    private static final int BLOCK = 163;
    private static final int EMPTY = 236;

    private final Film film;
    private final Film spare;
    private final Bytes file;
    private final Bytes draft;
    private final FilmWriter writer;
    private final FilmReader reader;

    public FrameVault() {
        film = new Film();
        spare = new Film();
        file = new Bytes();
        draft = new Bytes();
        SliceWalk walk = new SliceWalk();
        Coder bits = new BitCoder(file, draft);
        Coder ranges = new RangeCoder(file, draft);
        writer = new FilmWriter(draft, walk, bits, ranges);
        reader = new FilmReader(file, draft, spare, walk, bits, ranges);
    }

    public void shape(int width, int height, int planes) throws IllegalArgumentException {
        if (!isSide(width) || !isSide(height) || !isPlanes(planes)) {
            throw new IllegalArgumentException("no such shape");
        }
        film.reshape(width, height, planes);
    }

    public int frame(int time) throws IllegalArgumentException, IllegalStateException {
        if (time < 0 || time > MOST_TIME || time <= film.lastTime()) {
            throw new IllegalArgumentException("no time for a next frame");
        }
        if (film.frames >= MOST_FRAMES) {
            throw new IllegalStateException("no room for a frame");
        }
        film.addFrame(time);
        return film.frames - 1;
    }

    public int set(int frame, int plane, int x, int y, int v)
            throws IndexOutOfBoundsException, IllegalArgumentException {
        if (!film.hasPlace(frame, plane, x, y)) {
            throw new IndexOutOfBoundsException("no such place");
        }
        if (v < 0 || v > MOST_SAMPLE) {
            throw new IllegalArgumentException("no sample");
        }
        int place = frame * FRAME_PLACES + placeOf(plane, x, y);
        int before = film.samples[place];
        film.samples[place] = v;
        return before;
    }

    public int get(int frame, int plane, int x, int y) throws IndexOutOfBoundsException {
        if (!film.hasPlace(frame, plane, x, y)) {
            throw new IndexOutOfBoundsException("no such place");
        }
        return film.samples[frame * FRAME_PLACES + placeOf(plane, x, y)];
    }

    public int time(int frame) throws IndexOutOfBoundsException {
        if (frame < 0 || frame >= film.frames) {
            throw new IndexOutOfBoundsException("no such frame");
        }
        return film.times[frame];
    }

    public int about(int what) throws IllegalArgumentException {
        switch (what) {
            case 0:
                return film.frames;
            case 1:
                return film.width;
            case 2:
                return film.height;
            case 3:
                return film.planes;
            default:
                throw new IllegalArgumentException("nothing is known about this");
        }
    }

    public int write(int mode, int slices) throws IllegalArgumentException, IllegalStateException {
        if (!isCoding(mode, slices, film.height)) {
            throw new IllegalArgumentException("no such mode, or not so many slices");
        }
        writer.compose(film, mode, slices);
        if (draft.full) {
            throw new IllegalStateException("the file would be too long");
        }
        file.takeFrom(draft);
        return file.length;
    }

    public int read() {
        reader.takeHead();
        reader.takeTrack();
        for (int frame = 0; frame < MOST_FRAMES && reader.hasMore(); frame++) {
            reader.takeFrame(frame);
        }
        int fault = reader.finish();
        if (fault == NONE) {
            film.takeFrom(spare);
        }
        return fault;
    }

    public int size() {
        return file.length;
    }

    public int byteAt(int k) throws IndexOutOfBoundsException {
        if (k < 0 || k >= file.length) {
            throw new IndexOutOfBoundsException("no such byte");
        }
        return file.at(k);
    }

    public void poke(int k, int b) throws IndexOutOfBoundsException, IllegalArgumentException {
        if (k < 0 || k >= file.length) {
            throw new IndexOutOfBoundsException("no such byte");
        }
        if (b < 0 || b > MOST_BYTE) {
            throw new IllegalArgumentException("no byte");
        }
        file.put(k, b);
    }

    public int type(long bytes, int n) throws IllegalArgumentException, IllegalStateException {
        if (n < 1 || n > 8) {
            throw new IllegalArgumentException("not 1 .. 8 bytes");
        }
        if (file.length + n > MOST_BYTES) {
            throw new IllegalStateException("the file would be too long");
        }
        for (int i = n - 1; i >= 0; i--) {
            file.push((int) (bytes >> 8 * i & MOST_BYTE));
        }
        return file.length;
    }

    public void cut(int n) throws IllegalArgumentException {
        if (n < 0 || n > file.length) {
            throw new IllegalArgumentException("not so many bytes");
        }
        file.length = n;
    }

    public int check(int from, int many) throws IndexOutOfBoundsException, IllegalArgumentException {
        if (from < 0 || from > file.length || many > file.length - from) {
            throw new IndexOutOfBoundsException("no such bytes");
        }
        if (many < 0) {
            throw new IllegalArgumentException("fewer than no bytes");
        }
        return file.checkOf(from, many);
    }

    private static boolean isSide(int side) {
        return side >= 1 && side <= MOST_SIDE;
    }

    private static boolean isPlanes(int planes) {
        return planes == 1 || planes == MOST_PLANES;
    }

    private static boolean isCoding(int mode, int slices, int height) {
        return (mode == BITS || mode == RANGES) && slices >= 1 && slices <= MOST_SLICES && slices <= height;
    }

    /** The place in a row of a frame's samples or values, the same for every shape. */
    private static int placeOf(int plane, int x, int y) {
        return (plane * MOST_SIDE + y) * MOST_SIDE + x;
    }

    /** The first row of a slice; of the one behind the last, the row behind all. */
    private static int rowOf(int slice, int slices, int height) {
        return slice * height / slices;
    }

    /** The shape and the frames. */
    private static final class Film {
        int width = 1;
        int height = 1;
        int planes = 1;
        int frames = 0;
        final int[] times = new int[MOST_FRAMES];
        final int[] samples = new int[MOST_FRAMES * FRAME_PLACES];

        void reshape(int newWidth, int newHeight, int newPlanes) {
            width = newWidth;
            height = newHeight;
            planes = newPlanes;
            frames = 0;
        }

        int lastTime() {
            return frames == 0 ? NONE : times[frames - 1];
        }

        void addFrame(int newTime) {
            if (frames >= MOST_FRAMES) {
                return;
            }
            for (int i = 0; i < FRAME_PLACES; i++) {
                samples[frames * FRAME_PLACES + i] = 0;
            }
            times[frames] = newTime;
            frames++;
        }

        boolean hasPlace(int frame, int plane, int x, int y) {
            return frame >= 0 && frame < frames && plane >= 0 && plane < planes
                    && x >= 0 && x < width && y >= 0 && y < height;
        }

        void takeFrom(Film other) {
            reshape(other.width, other.height, other.planes);
            frames = other.frames;
            System.arraycopy(other.times, 0, times, 0, times.length);
            System.arraycopy(other.samples, 0, samples, 0, samples.length);
        }
    }

    /**
     * The bytes of a file. What would go beyond its limit is dropped, and full tells so: the one who
     * writes looks at it once, in the end.
     */
    private static final class Bytes {
        private static final int MOST_IN_ONE_BYTE = 126;

        int length = 0;
        boolean full = false;
        private final int[] data = new int[MOST_BYTES];
        private int next = 0;
        private int stop = 0;

        void clear() {
            length = 0;
            full = false;
        }

        void takeFrom(Bytes other) {
            length = other.length;
            System.arraycopy(other.data, 0, data, 0, length);
        }

        /** Byte k, or NONE where there is none. */
        int at(int k) {
            return k >= 0 && k < length ? data[k] : NONE;
        }

        int bigAt(int k) {
            return at(k) * 256 + at(k + 1);
        }

        void beginTaking(int from, int end) {
            next = from;
            stop = end;
        }

        /** The next of the bytes to take; 0 behind them. */
        int take() {
            int b = next >= 0 && next < stop && next < length ? data[next] : 0;
            next++;
            return b;
        }

        void put(int k, int b) {
            if (k >= 0 && k < length) {
                data[k] = b;
            }
        }

        void push(int b) {
            if (length >= MOST_BYTES) {
                full = true;
                return;
            }
            data[length] = b;
            length++;
        }

        void pushBig(int number) {
            push(number / 256);
            push(number % 256);
        }

        /** Begins an element, with one byte kept free for its size: where what it has begins. */
        int open(int id) {
            push(id);
            push(0);
            return length;
        }

        /** Ends the element; a size that takes two bytes moves what the element has. */
        void close(int start) {
            int many = length - start;
            if (many <= MOST_IN_ONE_BYTE) {
                put(start - 1, 128 + many);
                return;
            }
            push(0);
            if (full) {
                return;
            }
            System.arraycopy(data, start, data, start + 1, many);
            data[start - 1] = 64 + many / 256;
            data[start] = many % 256;
        }

        /** Adds to the number whose digits are the bytes from start on. */
        void raise(int start, int amount) {
            int carry = amount;
            for (int i = length - 1; i >= start && i >= 0 && carry > 0; i--) {
                int sum = data[i] + carry;
                data[i] = sum % 256;
                carry = sum / 256;
            }
        }

        void pushByteElement(int id, int number) {
            int start = open(id);
            push(number);
            close(start);
        }

        int checkOf(int from, int many) {
            int r = 65535;
            for (int i = from; i < from + many; i++) {
                r ^= at(i) * 256;
                for (int k = 0; k < 8; k++) {
                    r = r >= 32768 ? (r * 2 ^ 4129) & 65535 : r * 2;
                }
            }
            return r;
        }

        /** Whether these are just the other's bytes from a place on, up to the end given. */
        boolean areThoseOf(Bytes other, int from, int end) {
            boolean same = length == end - from;
            for (int i = 0; same && i < length; i++) {
                same = data[i] == other.at(from + i);
            }
            return same;
        }
    }

    /**
     * Codes the differences of a slice. One way of going through a value serves both directions, so
     * that reading cannot part from writing: a bit that is written is answered as it was given, a
     * bit that is read is answered as it stands in the slice.
     */
    private abstract static class Coder {
        final Bytes in;
        final Bytes out;
        boolean reading;

        Coder(Bytes in, Bytes out) {
            this.in = in;
            this.out = out;
        }

        final void beginReading(int from, int stop) {
            reading = true;
            in.beginTaking(from, stop);
            begin();
        }

        final void beginWriting() {
            reading = false;
            begin();
        }

        /** Makes the contexts new, for each slice stands alone. */
        abstract void begin();

        /** Writes the difference e, or reads one: the one that the slice has. */
        abstract int code(int context, int e);
    }

    /** Mode 0: a number of bits that follows from what the context has seen. */
    private static final class BitCoder extends Coder {
        private static final int MOST_ZEROS = 12;
        private static final int WHOLE_BITS = 9;

        private final int[] sums = new int[CONTEXTS];
        private final int[] counts = new int[CONTEXTS];
        private int current;
        private int left;

        BitCoder(Bytes in, Bytes out) {
            super(in, out);
        }

        @Override
        void begin() {
            Arrays.fill(sums, 4);
            Arrays.fill(counts, 1);
            left = 0;
        }

        @Override
        int code(int context, int e) {
            int k = lowBits(context);
            int m = e < 0 ? -2 * e - 1 : 2 * e;
            int zeros = 0;
            while (zeros < MOST_ZEROS && bit(zeros < m >> k ? 0 : 1) == 0) {
                zeros++;
            }
            boolean whole = zeros == MOST_ZEROS;
            int got = whole ? 0 : zeros;
            for (int i = (whole ? WHOLE_BITS : k) - 1; i >= 0; i--) {
                got = got * 2 + bit(m >> i & 1);
            }
            // Nothing that is written is longer; in a wrong slice this keeps the sums low.
            got &= (1 << WHOLE_BITS) - 1;
            int found = got % 2 == 0 ? got / 2 : -(got / 2) - 1;
            learn(context, found);
            return found;
        }

        /** No difference is above 256, so a sum is never above count * 256. */
        private int lowBits(int context) {
            int k = 0;
            while (k < 8 && counts[context] << k < sums[context]) {
                k++;
            }
            return k;
        }

        private void learn(int context, int e) {
            sums[context] += Math.abs(e);
            counts[context]++;
            if (counts[context] == 16) {
                counts[context] = 8;
                sums[context] /= 2;
            }
        }

        private int bit(int b) {
            if (left == 0) {
                left = 8;
                if (reading) {
                    current = in.take();
                } else {
                    current = 0;
                    out.push(0);
                }
            }
            left--;
            if (reading) {
                return current >> left & 1;
            }
            current += b << left;
            out.put(out.length - 1, current);
            return b;
        }
    }

    /**
     * Mode 1: every bit takes a part of a range, as great as its state thinks it likely. Writing, the
     * bytes are the digits of low at all times, and a carry goes into those that stand there
     * already; reading, above is how far the digits read so far lie above low.
     */
    private static final class RangeCoder extends Coder {
        private static final int STATES = 19;
        private static final int FIRST_POWER = 1;
        private static final int MOST_POWER = 8;
        private static final int FIRST_DIGIT = 10;
        private static final int SIGN = 18;

        private final int[] states = new int[CONTEXTS * STATES];
        private int range;
        private int start;
        private int above;

        RangeCoder(Bytes in, Bytes out) {
            super(in, out);
        }

        @Override
        void begin() {
            Arrays.fill(states, 128);
            range = 65280;
            start = out.length;
            if (reading) {
                above = in.take() * 256;
                above += in.take();
            } else {
                out.push(0);
                out.push(0);
            }
        }

        @Override
        int code(int context, int e) {
            int first = context * STATES;
            if (bit(first, e == 0 ? 1 : 0) == 1) {
                return 0;
            }
            int a = Math.abs(e);
            int n = 0;
            while (n < MOST_POWER && bit(first + FIRST_POWER + n, a >> n + 1 > 0 ? 1 : 0) == 1) {
                n++;
            }
            int got = 1;
            for (int i = n - 1; i >= 0; i--) {
                got = got * 2 + bit(first + FIRST_DIGIT + i, a >> i & 1);
            }
            return bit(first + SIGN, e < 0 ? 1 : 0) == 1 ? -got : got;
        }

        /** A state stays in 15 .. 241, so no part is below 15: one step makes it great enough. */
        private int bit(int place, int b) {
            int s = states[place];
            int h = range * s >> 8;
            int got = reading ? bitAbove(range - h) : b;
            if (got == 1) {
                if (reading) {
                    above -= range - h;
                } else {
                    out.raise(start, range - h);
                }
                range = h;
                states[place] = s + (256 - s >> 4);
            } else {
                range -= h;
                states[place] = s - (s >> 4);
            }
            if (range < 256) {
                range *= 256;
                if (reading) {
                    above = above * 256 + in.take();
                } else {
                    out.push(0);
                }
            }
            return got;
        }

        private int bitAbove(int bound) {
            return above >= bound ? 1 : 0;
        }
    }

    /** Goes through the values of a slice, each with its guess and its context. */
    private static final class SliceWalk {
        private final int[] values = new int[FRAME_PLACES];
        private int guess;
        private int context;

        /** Turns the samples of a frame into values. */
        void load(Film film, int frame) {
            int from = frame * FRAME_PLACES;
            for (int place = 0; place < PLANE_PLACES; place++) {
                int first = film.samples[from + place];
                if (film.planes == 1) {
                    values[place] = first;
                } else {
                    int green = film.samples[from + PLANE_PLACES + place];
                    int blueLess = film.samples[from + 2 * PLANE_PLACES + place] - green;
                    int redLess = first - green;
                    values[place] = green + (blueLess + redLess >> 2);
                    values[PLANE_PLACES + place] = blueLess;
                    values[2 * PLANE_PLACES + place] = redLess;
                }
            }
        }

        /** Turns the values of some rows into samples of the frame: whether all of them are samples. */
        boolean unload(Film film, int frame, int firstRow, int endRow) {
            boolean fits = true;
            for (int y = firstRow; y < endRow; y++) {
                for (int x = 0; x < film.width; x++) {
                    fits = unloadPlace(film, frame * FRAME_PLACES, placeOf(0, x, y)) && fits;
                }
            }
            return fits;
        }

        private boolean unloadPlace(Film film, int from, int place) {
            if (film.planes == 1) {
                film.samples[from + place] = values[place];
                return true;
            }
            int blueLess = values[PLANE_PLACES + place];
            int redLess = values[2 * PLANE_PLACES + place];
            int green = values[place] - (blueLess + redLess >> 2);
            film.samples[from + place] = redLess + green;
            film.samples[from + PLANE_PLACES + place] = green;
            film.samples[from + 2 * PLANE_PLACES + place] = blueLess + green;
            return isSample(green) && isSample(redLess + green) && isSample(blueLess + green);
        }

        private static boolean isSample(int v) {
            return v >= 0 && v <= MOST_SAMPLE;
        }

        /** Codes the rows, or fills them with what the coder reads. */
        void pass(Coder coder, Film film, int firstRow, int endRow) {
            for (int plane = 0; plane < film.planes; plane++) {
                int half = plane == 0 ? 128 : 256;
                int set = plane == 0 ? 0 : CONTEXTS_IN_SET;
                for (int y = firstRow; y < endRow; y++) {
                    for (int x = 0; x < film.width; x++) {
                        int place = placeOf(plane, x, y);
                        lookAround(place, x, y == firstRow, x == film.width - 1);
                        int turn = context < 0 ? -1 : 1;
                        int e = within(turn * (values[place] - guess), half);
                        int found = guess + turn * coder.code(set + turn * context, e);
                        values[place] = plane == 0 ? found & MOST_SAMPLE : within(found, half);
                    }
                }
            }
        }

        /** Finds the guess, and the context with its sign. */
        private void lookAround(int place, int x, boolean inFirstRow, boolean atLast) {
            int above = inFirstRow ? 0 : values[place - MOST_SIDE];
            int left = x == 0 ? above : values[place - 1];
            int aboveLeft = inFirstRow ? 0 : x == 0 ? above : values[place - MOST_SIDE - 1];
            int aboveRight = inFirstRow ? 0 : atLast ? above : values[place - MOST_SIDE + 1];
            guess = middle(left, above, left + above - aboveLeft);
            context = 25 * step(left - aboveLeft) + 5 * step(aboveLeft - above) + step(above - aboveRight);
        }

        private static int middle(int a, int b, int c) {
            return Math.max(Math.min(a, b), Math.min(Math.max(a, b), c));
        }

        private static int step(int d) {
            int size = d == 0 ? 0 : Math.abs(d) <= 4 ? 1 : 2;
            return d < 0 ? -size : size;
        }

        /** The number from -half to half - 1 that differs from d by a multiple of 2 * half. */
        private static int within(int d, int half) {
            return (d + half & 2 * half - 1) - half;
        }
    }

    /** Puts a film into bytes. */
    private static final class FilmWriter {
        private final Bytes out;
        private final SliceWalk walk;
        private final Coder bits;
        private final Coder ranges;

        FilmWriter(Bytes out, SliceWalk walk, Coder bits, Coder ranges) {
            this.out = out;
            this.walk = walk;
            this.bits = bits;
            this.ranges = ranges;
        }

        void compose(Film film, int mode, int slices) {
            out.clear();
            int head = out.open(HEAD);
            out.pushByteElement(VERSION, 1);
            out.close(head);
            int body = out.open(BODY);
            addTrack(film, 16 * mode + slices);
            for (int frame = 0; frame < film.frames; frame++) {
                int start = out.open(FRAME);
                int stamp = out.open(TIME);
                out.pushBig(film.times[frame]);
                out.close(stamp);
                int block = out.open(BLOCK);
                walk.load(film, frame);
                for (int i = 0; i < slices; i++) {
                    int firstRow = rowOf(i, slices, film.height);
                    addSlice(film, mode, firstRow, rowOf(i + 1, slices, film.height));
                }
                out.close(block);
                out.close(start);
            }
            out.close(body);
        }

        private void addTrack(Film film, int coding) {
            int track = out.open(TRACK);
            out.pushByteElement(WIDTH, film.width);
            out.pushByteElement(HEIGHT, film.height);
            out.pushByteElement(PLANES, film.planes);
            out.pushByteElement(CODING, coding);
            out.close(track);
        }

        private void addSlice(Film film, int mode, int firstRow, int endRow) {
            out.pushBig(0);
            int start = out.length;
            Coder coder = mode == BITS ? bits : ranges;
            coder.beginWriting();
            walk.pass(coder, film, firstRow, endRow);
            int many = out.length - start;
            out.put(start - 2, many / 256);
            out.put(start - 1, many % 256);
            out.pushBig(out.checkOf(start, many));
        }
    }

    /**
     * Takes a film out of the file, from byte to byte. The first fault is kept, and behind it every
     * step does nothing, so that the steps can be written in the order of the file.
     */
    private static final class FilmReader {
        private final Bytes file;
        private final Bytes draft;
        private final Film film;
        private final SliceWalk walk;
        private final Coder bits;
        private final Coder ranges;
        private int at;
        private int fault;
        private int bodyEnd;
        private int sizePlace;
        private int mode;
        private int slices;

        FilmReader(Bytes file, Bytes draft, Film film, SliceWalk walk, Coder bits, Coder ranges) {
            this.file = file;
            this.draft = draft;
            this.film = film;
            this.walk = walk;
            this.bits = bits;
            this.ranges = ranges;
        }

        /** Begins anew, and goes into the element that has the rest. */
        void takeHead() {
            at = 0;
            fault = NONE;
            int headEnd = enter(HEAD, file.length);
            takeNumber(VERSION, 1, 1, 1, headEnd);
            leave(headEnd);
            bodyEnd = enter(BODY, file.length);
        }

        void takeTrack() {
            int trackEnd = enter(TRACK, bodyEnd);
            int width = takeNumber(WIDTH, 1, 1, MOST_SIDE, trackEnd);
            int height = takeNumber(HEIGHT, 1, 1, MOST_SIDE, trackEnd);
            int planes = takeNumber(PLANES, 1, 1, MOST_PLANES, trackEnd);
            if (!isPlanes(planes)) {
                fail(at - 1);
            }
            int coding = takeNumber(CODING, 1, 0, MOST_BYTE, trackEnd);
            mode = coding / 16;
            slices = coding % 16;
            if (!isCoding(mode, slices, height)) {
                fail(at - 1);
            }
            leave(trackEnd);
            passEmpty(bodyEnd);
            if (fault == NONE) {
                film.reshape(width, height, planes);
            }
        }

        boolean hasMore() {
            return fault == NONE && at < bodyEnd;
        }

        void takeFrame(int frame) {
            int frameEnd = enter(FRAME, bodyEnd);
            int stamp = takeNumber(TIME, 2, film.lastTime() + 1, MOST_TIME, frameEnd);
            int blockEnd = enter(BLOCK, frameEnd);
            if (fault == NONE) {
                film.addFrame(stamp);
                takeBlock(frame, blockEnd);
            }
            leave(frameEnd);
            passEmpty(bodyEnd);
        }

        /** The place at which the file fails, or NONE: then the film has what the file has. */
        int finish() {
            leave(bodyEnd);
            leave(file.length);
            return fault;
        }

        private void fail(int place) {
            if (fault == NONE) {
                fault = place;
            }
        }

        private void passEmpty(int end) {
            for (int k = 0; k < MOST_BYTES && fault == NONE && at < end && file.at(at) == EMPTY; k++) {
                at++;
                at = takeSize(end);
            }
        }

        /** Goes into the element that must be here: where it ends. */
        private int enter(int id, int end) {
            passEmpty(end);
            if (at >= end || file.at(at) != id) {
                fail(at);
            }
            if (fault != NONE) {
                return at;
            }
            at++;
            return takeSize(end);
        }

        private void leave(int end) {
            passEmpty(end);
            if (at != end) {
                fail(at);
            }
        }

        /** Goes behind the size that must be here: where what it is the size of ends. */
        private int takeSize(int end) {
            sizePlace = at;
            int first = at < end ? file.at(at) : 0;
            int many = first - 128;
            int behind = at + 1;
            if (first < 128) {
                many = (first - 64) * 256 + file.at(at + 1);
                behind = at + 2;
            }
            if (first < 64 || first == 255 || behind > end || many > end - behind) {
                fail(at);
                return at;
            }
            at = behind;
            return behind + many;
        }

        /** Takes an element that has only a number of one or two bytes. */
        private int takeNumber(int id, int bytes, int least, int most, int end) {
            int stop = enter(id, end);
            if (stop - at != bytes) {
                fail(sizePlace);
            }
            if (fault != NONE) {
                return least;
            }
            int number = bytes == 1 ? file.at(at) : file.bigAt(at);
            if (number < least || number > most) {
                fail(at);
            }
            at = stop;
            return number;
        }

        private void takeBlock(int frame, int end) {
            Coder coder = mode == BITS ? bits : ranges;
            for (int i = 0; i < slices && fault == NONE; i++) {
                int stop = takeSliceSize(end);
                if (fault != NONE) {
                    return;
                }
                int firstRow = rowOf(i, slices, film.height);
                int endRow = rowOf(i + 1, slices, film.height);
                coder.beginReading(at, stop);
                walk.pass(coder, film, firstRow, endRow);
                boolean fits = walk.unload(film, frame, firstRow, endRow);
                draft.clear();
                coder.beginWriting();
                walk.pass(coder, film, firstRow, endRow);
                if (!fits || !draft.areThoseOf(file, at, stop)) {
                    fail(at);
                }
                at = stop + 2;
            }
            if (at != end) {
                fail(at);
            }
        }

        /** Goes behind the size of a slice, with a look at the check: where the slice ends. */
        private int takeSliceSize(int end) {
            if (end - at < 2 || file.bigAt(at) + 4 > end - at) {
                fail(at);
                return at;
            }
            int start = at + 2;
            int many = file.bigAt(at);
            if (file.checkOf(start, many) != file.bigAt(start + many)) {
                fail(start + many);
            }
            at = start;
            return start + many;
        }
    }
}
