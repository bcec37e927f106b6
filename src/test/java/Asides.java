import java.util.Arrays;
import java.util.Random;
import java.util.function.Consumer;
import java.util.function.IntFunction;

/**
 * Shows that a rule of coding holds at its edge: finds pictures that are written otherwise when the
 * rule is turned aside by a step, and looks that the class writes and reads them by the rule.
 */
final class Asides {
    private static final int ENOUGH = 4;
    private static final int MOST_TRIES = 4000;
    private static final int MOST_PLACES_TO_JUDGE = 27;

    private Asides() {
    }

    /** At least one of the pictures must tell the rule from the one aside; some of those that do are looked at. */
    static void told(String what, IntFunction<DocModel.Picture> family, Consumer<Rules> turn) {
        Rules aside = new Rules();
        turn.accept(aside);
        int found = 0;
        for (int n = 0; n < MOST_TRIES && found < ENOUGH; n++) {
            DocModel.Picture picture = family.apply(n);
            int[] other = DocModel.fileOf(picture, aside);
            if (!Arrays.equals(DocModel.fileOf(picture), other)) {
                found++;
                both(what, picture);
                refusedOrOther(what, picture, other);
            }
        }
        Expect.yes(what + ": that a picture tells it", found > 0);
    }

    /** Writes the picture, and reads what is due, each as the document says. */
    static void both(String what, DocModel.Picture picture) {
        int[] due = DocModel.fileOf(picture);
        FrameVault writer = Vaults.withPicture(picture);
        Expect.same(what + ": write", writer.write(picture.mode, picture.slices), due.length);
        Vaults.hasFile(what, writer, due);
        FrameVault reader = Vaults.withFile(due);
        Expect.same(what + ": read", reader.read(), FrameVault.NONE);
        Vaults.hasPicture(what, reader, picture);
    }

    /** A file that is made by other rules is no file, or that of another picture. */
    private static void refusedOrOther(String what, DocModel.Picture picture, int[] other) {
        if (picture.width * picture.height * picture.planes > MOST_PLACES_TO_JUDGE) {
            return;
        }
        DocModel.Picture[] found = new DocModel.Picture[1];
        int due = DocModel.read(other, found);
        FrameVault reader = Vaults.withFile(other);
        Expect.same(what + ": read of what is written aside", reader.read(), due);
        if (due == FrameVault.NONE) {
            Vaults.hasPicture(what, reader, found[0]);
        }
    }

    static DocModel.Picture picture(int mode, int slices, int[][]... planes) {
        DocModel.Picture picture = new DocModel.Picture();
        picture.width = planes[0][0].length;
        picture.height = planes[0].length;
        picture.planes = planes.length;
        picture.mode = mode;
        picture.slices = slices;
        int[][][] samples = picture.add(258);
        for (int plane = 0; plane < planes.length; plane++) {
            for (int y = 0; y < picture.height; y++) {
                samples[plane][y] = planes[plane][y].clone();
            }
        }
        return picture;
    }

    /** Pictures by chance whose samples are all among those given. */
    static IntFunction<DocModel.Picture> among(int mode, int planes, int most, int... some) {
        return n -> {
            Random random = new Random(n);
            return drawn(random, mode, planes, most, (x, y) -> some[random.nextInt(some.length)]);
        };
    }

    /** Pictures that rise or fall evenly, but for a little: so that few contexts are used often. */
    static IntFunction<DocModel.Picture> slopes(int mode, int planes) {
        return n -> {
            Random random = new Random(n);
            int across = random.nextInt(41) - 20;
            int down = random.nextInt(41) - 20;
            int base = random.nextInt(256);
            int noise = 1 + random.nextInt(6);
            return drawn(random, mode, planes, 6, (x, y) -> base + across * x + down * y + random.nextInt(noise) & 255);
        };
    }

    /** A sample for a place. */
    private interface Brush {
        int at(int x, int y);
    }

    private static DocModel.Picture drawn(Random random, int mode, int planes, int most, Brush brush) {
        int height = 1 + random.nextInt(most);
        int width = 1 + random.nextInt(most);
        int[][][] samples = new int[planes][height][width];
        for (int[][] plane : samples) {
            for (int y = 0; y < height; y++) {
                for (int x = 0; x < width; x++) {
                    plane[y][x] = brush.at(x, y);
                }
            }
        }
        return picture(mode, 1 + random.nextInt(Math.min(3, height)), samples);
    }
}
