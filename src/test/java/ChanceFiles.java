import java.util.Arrays;
import java.util.Random;

/** Files by chance: most have a fault or two, of all the kinds that a file can have. */
final class ChanceFiles {
    private final Random random;
    private final boolean faulty;
    private final DocModel.Picture picture = new DocModel.Picture();

    ChanceFiles(Random random) {
        this.random = random;
        this.faulty = random.nextInt(3) > 0;
    }

    int[] next() {
        picture.width = 1 + random.nextInt(4);
        picture.height = 1 + random.nextInt(4);
        picture.planes = random.nextInt(3) == 0 ? 3 : 1;
        picture.mode = random.nextInt(2);
        picture.slices = 1 + random.nextInt(Math.min(3, picture.height));
        int[] bytes = DocModel.join(part(element(26, number(66, 1))), part(element(24, body())), gap());
        if (faulty && random.nextInt(3) == 0) {
            bytes = damaged(bytes);
        }
        return bytes.length > 1200 ? Arrays.copyOf(bytes, 1200) : bytes;
    }

    private boolean rarely() {
        return faulty && random.nextInt(60) == 0;
    }

    private int[] body() {
        int coding = 16 * picture.mode + picture.slices;
        int[] body = part(element(174, DocModel.join(number(176, picture.width), number(186, picture.height),
                number(83, picture.planes), number(84, coding), gap())));
        int frames = rarely() ? 4 : random.nextInt(4);
        int time = random.nextInt(300);
        for (int frame = 0; frame < frames; frame++) {
            body = DocModel.join(body, frame(frame, time));
            time = rarely() ? time : time + 1 + random.nextInt(300);
        }
        return DocModel.join(body, gap());
    }

    private int[] frame(int frame, int time) {
        WriteTest.fill(picture.add(time), random, 1 + random.nextInt(random.nextBoolean() ? 256 : 9));
        int[] block = new int[0];
        for (int i = 0; i < picture.slices; i++) {
            int first = i * picture.height / picture.slices;
            int end = (i + 1) * picture.height / picture.slices;
            int[] slice = DocModel.sliceOf(picture.samples.get(frame), picture.mode, first, end);
            if (faulty && random.nextInt(12) == 0) {
                slice = damaged(slice);
            }
            int[] sealed = DocModel.sealed(slice);
            block = rarely() ? block : DocModel.join(block, rarely() ? damaged(sealed) : sealed);
        }
        int[] content = DocModel.join(part(element(231, DocModel.big(time))), part(element(163, block)), gap());
        return part(element(31, content));
    }

    private int[] number(int id, int number) {
        return part(element(id, new int[] {rarely() ? random.nextInt(20) : number}));
    }

    private int[] element(int id, int[] content) {
        int[] inside = rarely() ? damaged(content) : content;
        boolean wide = random.nextInt(8) == 0 || inside.length > 126;
        return DocModel.element(rarely() ? random.nextInt(256) : id, wide, inside);
    }

    private int[] part(int[] element) {
        return DocModel.join(gap(), rarely() ? new int[0] : element, rarely() ? element : new int[0]);
    }

    private int[] gap() {
        int[] gap = new int[0];
        while (random.nextInt(12) == 0) {
            int[] content = new int[random.nextInt(4)];
            for (int i = 0; i < content.length; i++) {
                content[i] = random.nextInt(256);
            }
            gap = DocModel.join(gap, DocModel.element(236, random.nextInt(4) == 0, content));
        }
        return gap;
    }

    /** A byte changed, taken away, put in, or an end cut off. */
    private int[] damaged(int[] bytes) {
        int k = random.nextInt(bytes.length + 1);
        int[] before = Arrays.copyOf(bytes, k);
        int[] after = Arrays.copyOfRange(bytes, k, bytes.length);
        int[] rest = after.length == 0 ? after : Arrays.copyOfRange(after, 1, after.length);
        switch (random.nextInt(4)) {
            case 0:
                return DocModel.join(before, after.length == 0 ? after : new int[] {random.nextInt(256)}, rest);
            case 1:
                return DocModel.join(before, rest);
            case 2:
                return DocModel.join(before, new int[] {random.nextInt(256)}, after);
            default:
                return before;
        }
    }
}
