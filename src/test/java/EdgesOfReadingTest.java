import java.util.Arrays;
import java.util.function.BiFunction;

/** The edges of promise 9: each kind of fault at each element, and what is no fault beside it. */
public final class EdgesOfReadingTest {
    private static final int NONE = FrameVault.NONE;
    private static final int ELEMENTS = 14;

    public static void main(String[] args) {
        ids();
        missing();
        twice();
        sizes();
        sizesThatEnd();
        sizesThatMustBe();
        gaps();
        noGaps();
        moreThanMustBe();
        movedInside();
        movedBehind();
        fullFiles();
        numbers();
        codings();
        times();
        fourthFrame();
        places();
        wholeFiles();
        Expect.end();
    }

    /** A file with every element: two frames of 2 x 2, two slices each, in mode 0. */
    private static Node file() {
        return Node.of(Node.NO_ID, head(), Node.of(24, track(2, 2, 1, 2), frame(255), frame(256)));
    }

    private static Node head() {
        return Node.of(26, new Node(66, 1));
    }

    private static Node track(int width, int height, int planes, int coding) {
        return Node.of(174, new Node(176, width), new Node(186, height), new Node(83, planes), new Node(84, coding));
    }

    private static Node frame(int time) {
        int[] slice = DocModel.sliceOf(new int[][][] {{{0, time & 255}}}, 0, 0, 1);
        int[] sealed = DocModel.sealed(slice);
        return Node.of(31, new Node(231, DocModel.big(time)), new Node(163, DocModel.join(sealed, sealed)));
    }

    private static void due(String what, int place, int[] bytes) {
        FrameVault vault = Vaults.withFile(bytes);
        vault.shape(1, 2, 3);
        vault.frame(9);
        vault.set(0, 2, 0, 1, 200);
        String before = Expect.stateOf(vault);
        Expect.same(what, vault.read(), place);
        if (place != NONE) {
            Expect.same(what + ": what stays", Expect.stateOf(vault), before);
        } else {
            Vaults.hasFile(what + ": the file", vault, bytes);
        }
        Expect.same(what + ": the model", DocModel.read(bytes, new DocModel.Picture[1]), place);
    }

    /** Changes each element in turn, in a file of its own; the change answers the place that is due. */
    private static void atEach(String what, BiFunction<Node, Node, Integer> change) {
        for (int i = 1; i <= ELEMENTS; i++) {
            Node file = file();
            Node node = file.all().get(i);
            int place = change.apply(file, node);
            due(what + ", element " + i, place, file.laid(0));
        }
    }

    /** Pokes the file at a place that is known only when it is laid out. */
    private static void pokeEach(String what, int value, boolean atSize) {
        for (int i = 1; i <= ELEMENTS; i++) {
            Node file = file();
            int[] bytes = file.laid(0);
            Node node = file.all().get(i);
            int k = atSize ? node.sizeAt : node.idAt;
            if (bytes[k] != value) {
                bytes[k] = value;
                due(what + " " + value + ", element " + i, k, bytes);
            }
        }
    }

    private static void ids() {
        Expect.sentence("To read", "it fails at an id", () -> {
            for (int id = 0; id < 256; id++) {
                if (id != 236) {
                    pokeEach("id", id, false);
                }
            }
            atEach("an id one less", (file, node) -> {
                node.id--;
                file.laid(0);
                return node.idAt;
            });
            atEach("an id one more", (file, node) -> {
                node.id++;
                file.laid(0);
                return node.idAt;
            });
            due("nothing is wrong", NONE, file().laid(0));
        });
    }

    private static void missing() {
        Expect.sentence("To read", "or the end of the element, or the file, where one must be", () -> {
            atEach("it and all behind it is missing", (file, node) -> {
                Node parent = file.parentOf(node);
                int first = parent.parts.indexOf(node);
                while (parent.parts.size() > first) {
                    parent.parts.remove(first);
                }
                file.laid(0);
                return node.id == 31 ? NONE : parent.end;
            });
            atEach("it alone is missing", (file, node) -> {
                file.laid(0);
                file.parentOf(node).parts.remove(node);
                int place = node.idAt;
                file.laid(0);
                return node.id == 31 ? NONE : place;
            });
            due("no file", 0, new int[0]);
            due("a gap, no file", 2, Node.of(Node.NO_ID, Node.gap()).laid(0));
            due("a head, no body", 5, Node.of(Node.NO_ID, head()).laid(0));
            due("a head and a gap", 8, Node.of(Node.NO_ID, head(), Node.gap(24)).laid(0));
        });
    }

    private static void twice() {
        Expect.sentence("To read", "where an element, or the file, must end but does not, it fails there", () ->
                atEach("it is there twice", (file, node) -> {
                    Node parent = file.parentOf(node);
                    Node again = node.id == 31 ? new Node(32) : node.hasElements() ? Node.of(node.id, new Node(66, 1))
                            : new Node(node.id, node.bytes);
                    parent.parts.add(parent.parts.indexOf(node) + 1, again);
                    file.laid(0);
                    return again.idAt;
                }));
        Expect.sentence("To read", "a number: a time that is there twice", () -> {
            Node file = Node.of(Node.NO_ID, head(), Node.of(24, track(2, 2, 1, 2), frame(7), frame(7)));
            int[] bytes = file.laid(0);
            due("a frame twice", file.parts.get(1).parts.get(2).parts.get(0).at, bytes);
        });
    }

    private static void sizes() {
        Expect.sentence("To read", "a size: 255 or below 64", () -> {
            for (int first = 0; first < 64; first++) {
                pokeEach("size", first, true);
            }
            pokeEach("size", 255, true);
            for (int many = 125; many <= 128; many++) {
                int inside = many;
                atEach("a gap makes it " + many, (file, node) -> {
                    if (node.hasElements()) {
                        node.parts.add(Node.gap(new int[inside]));
                    }
                    return NONE;
                });
            }
            longSizes();
        });
        Expect.sentence("To read", "a size of two bytes, though one would do", () -> {
            atEach("wide", (file, node) -> {
                node.wide = true;
                return NONE;
            });
            Node file = file();
            for (Node node : file.all()) {
                node.wide = node.id != Node.NO_ID;
            }
            due("all are wide", NONE, file.laid(0));
        });
        Expect.sentence("Elements", "one byte 128 + size (size up to 126), or two (up to 16382)", () -> {
            for (int many : new int[] {0, 1, 125, 126, 127, 128, 129, 255, 256, 257, 511, 512, 513, 1023, 1024, 1025}) {
                for (int wide = 0; wide < 2; wide++) {
                    Node gap = Node.gap(new int[many]);
                    gap.wide = wide == 1;
                    Node file = Node.of(Node.NO_ID, head(), Node.of(24, track(2, 2, 1, 2)));
                    file.parts.add(gap);
                    due("a gap of " + many, NONE, file.laid(0));
                    file.parts.remove(gap);
                    file.parts.get(1).parts.add(gap);
                    due("a gap of " + many + " inside", NONE, file.laid(0));
                }
            }
            for (int[] size : new int[][] {{64 + 63, 254}, {64 + 63, 255}, {64 + 4, 177}, {65, 0}}) {
                Node file = Node.of(Node.NO_ID, Node.bare(236, size[0], size[1]), head(), Node.of(24, track(2, 2, 1, 2)));
                due("a size of " + size[0] + " " + size[1], 1, file.laid(0));
            }
        });
    }

    /** An element of 126 bytes has the size 254; 255 is no size, though there are 127 bytes. */
    private static void longSizes() {
        for (int i = 1; i <= ELEMENTS; i++) {
            for (int many = 126; many <= 127; many++) {
                Node file = file();
                Node node = file.all().get(i);
                file.laid(0);
                if (node.hasElements() && node.end - node.at <= many - 2) {
                    node.parts.add(Node.gap(new int[many - 2 - (node.end - node.at)]));
                    Node longOne = Node.bare(node.id, 128 + many);
                    Node parent = file.parentOf(node);
                    int where = parent.parts.indexOf(node);
                    parent.parts.set(where, longOne);
                    parent.parts.addAll(where + 1, node.parts);
                    int[] bytes = file.laid(0);
                    due("element " + i + " of " + many, many == 126 ? NONE : longOne.at + 1, bytes);
                }
            }
        }
    }

    private static void sizesThatEnd() {
        Expect.sentence("To read", "a size: not whole", () -> {
            atEach("there is no size", (file, node) -> endsWith(file, node, node.id));
            for (int first : new int[] {64, 65, 127}) {
                atEach("a size of " + first + " without its second byte",
                        (file, node) -> endsWith(file, node, node.id, first));
            }
            due("an id alone", 1, new int[] {26});
            due("half a size alone", 1, new int[] {26, 64});
        });
        Expect.sentence("To read", "a size: beyond the end of the element (or the file) in which it is", () -> {
            for (int first : new int[] {129, 130, 254}) {
                atEach("one byte of " + first, (file, node) -> endsWith(file, node, node.id, first));
            }
            atEach("two bytes of 1", (file, node) -> endsWith(file, node, node.id, 64, 1));
            atEach("two bytes of 256", (file, node) -> endsWith(file, node, node.id, 65, 0));
            atEach("a byte of two", (file, node) -> endsWith(file, node, node.id, 130, 1));
            atEach("a byte of two, wide", (file, node) -> endsWith(file, node, node.id, 64, 2, 1));
            atEach("a gap beyond", (file, node) -> endsWith(file, node, 236, 129));
            atEach("a gap without a size", (file, node) -> endsWith(file, node, 236));
            atEach("a gap without half its size", (file, node) -> endsWith(file, node, 236, 64));
            atEach("a gap with a size of 255", (file, node) -> endsWith(file, node, 236, 255));
            atEach("a gap with a size of 63", (file, node) -> endsWith(file, node, 236, 63, 0));
        });
    }

    /** The element in which this one is ends with these bytes in its place: where the size is. */
    private static int endsWith(Node file, Node node, int... bytes) {
        Node parent = file.parentOf(node);
        int first = parent.parts.indexOf(node);
        while (parent.parts.size() > first) {
            parent.parts.remove(first);
        }
        Node rest = Node.bare(bytes);
        parent.parts.add(rest);
        file.laid(0);
        return rest.at + 1;
    }

    private static void sizesThatMustBe() {
        Expect.sentence("To read", "a size: not the one that must be", () -> {
            for (int step : new int[] {-1, 1, 2}) {
                for (int wide = 0; wide < 2; wide++) {
                    boolean isWide = wide == 1;
                    atEach("a number of " + step + " more bytes", (file, node) -> {
                        boolean isNumber = !node.hasElements() && node.id != 163;
                        if (isNumber) {
                            node.bytes = Arrays.copyOf(node.bytes, node.bytes.length + step);
                        }
                        node.wide = isWide;
                        file.laid(0);
                        return isNumber ? node.sizeAt : NONE;
                    });
                }
            }
            for (int many : new int[] {0, 1, 2, 3, 4, 126, 127, 256, 258}) {
                Node time = new Node(231, new int[many]);
                Node frame = frame(9);
                frame.parts.set(0, time);
                int[] bytes = Node.of(Node.NO_ID, head(), Node.of(24, track(2, 2, 1, 2), frame)).laid(0);
                due("a time of " + many + " bytes", many == 2 ? NONE : time.sizeAt, bytes);
            }
            for (int many : new int[] {0, 1, 2, 126, 127, 256, 257}) {
                Node version = new Node(66, new int[many]);
                Arrays.fill(version.bytes, 1);
                Node file = Node.of(Node.NO_ID, Node.of(26, version), Node.of(24, track(1, 1, 1, 1)));
                int[] bytes = file.laid(0);
                due("a version of " + many + " bytes", many == 1 ? NONE : version.sizeAt, bytes);
            }
        });
    }

    private static void gaps() {
        Expect.sentence("Elements", "elements 236 may stand before any of these", () -> {
            for (int[] inside : new int[][] {{}, {26}, {0, 255}, {66, 129, 2}, new int[126], new int[127]}) {
                atEach("a gap of " + inside.length + " before", (file, node) -> {
                    Node parent = file.parentOf(node);
                    parent.parts.add(parent.parts.indexOf(node), Node.gap(inside));
                    return NONE;
                });
            }
            atEach("two gaps before", (file, node) -> {
                Node parent = file.parentOf(node);
                parent.parts.add(parent.parts.indexOf(node), Node.gap(1));
                parent.parts.add(parent.parts.indexOf(node), Node.gap());
                return NONE;
            });
        });
        Expect.sentence("Elements", "and at the end of an element that has elements, or of the file", () -> {
            for (int many : new int[] {0, 1, 126, 127}) {
                atEach("a gap of " + many + " at the end", (file, node) -> {
                    file.parentOf(node).parts.add(Node.gap(new int[many]));
                    return NONE;
                });
            }
            Node full = file();
            int used = full.laid(0).length;
            full.parts.add(Node.gap(new int[1200 - used - 3]));
            Expect.same("a full file", full.laid(0).length, 1200);
            due("a full file", NONE, full.laid(0));
            full = file();
            for (int k = used; k + 2 <= 1200; k += 2) {
                full.parts.add(k % 4 < 2 ? 0 : 1, Node.gap());
            }
            due("a file full of gaps", NONE, full.laid(0));
        });
    }

    private static void noGaps() {
        Expect.sentence("Elements", "elements 236 are not in an element that has no elements", () -> {
            for (int[] gap : new int[][] {{236, 128}, {236, 129, 0}}) {
                atEach("a gap inside, behind", (file, node) -> {
                    if (node.hasElements()) {
                        return NONE;
                    }
                    int before = node.bytes.length;
                    node.bytes = DocModel.join(node.bytes, gap);
                    file.laid(0);
                    return node.id == 163 ? node.at + before : node.sizeAt;
                });
                atEach("a gap inside, before", (file, node) -> {
                    if (node.hasElements()) {
                        return NONE;
                    }
                    node.bytes = DocModel.join(gap, node.bytes);
                    file.laid(0);
                    return node.id == 163 ? node.at : node.sizeAt;
                });
            }
        });
        Expect.sentence("Elements", "they are passed over: what they have is not looked at", () -> {
            Node file = file();
            Node gap = Node.of(236, frame(1));
            file.parts.get(1).parts.add(1, gap);
            due("a frame in a gap", NONE, file.laid(0));
            file = file();
            file.parts.get(0).parts.set(0, Node.of(236, new Node(66, 1)));
            file.laid(0);
            due("the version in a gap", file.parts.get(0).end, file.laid(0));
        });
    }

    private static void moreThanMustBe() {
        Expect.sentence("To read", "where an element must end but does not: a byte more", () -> {
            for (int b : new int[] {0, 1, 26, 128, 235, 237, 255}) {
                atEach("byte " + b + " at the end of its parent", (file, node) -> {
                    Node rest = Node.bare(b);
                    file.parentOf(node).parts.add(rest);
                    file.laid(0);
                    return rest.at;
                });
            }
            atEach("a byte more in a block", (file, node) -> {
                int before = node.bytes.length;
                if (node.id != 163) {
                    return NONE;
                }
                node.bytes = Arrays.copyOf(node.bytes, before + 1);
                file.laid(0);
                return node.at + before;
            });
            atEach("a gap and a byte more", (file, node) -> {
                Node rest = Node.bare(7);
                file.parentOf(node).parts.add(Node.gap(7));
                file.parentOf(node).parts.add(rest);
                file.laid(0);
                return rest.at;
            });
        });
    }

    /** The next element is at the end of the one before it: that one does not end where it must. */
    private static void movedInside() {
        Expect.sentence("To read", "where an element must end but does not: the next one is in it", () ->
                atEach("the next one inside", (file, node) -> {
                    Node parent = file.parentOf(node);
                    int next = parent.parts.indexOf(node) + 1;
                    if (!node.hasElements() || next == parent.parts.size()) {
                        return NONE;
                    }
                    Node moved = parent.parts.remove(next);
                    node.parts.add(moved);
                    file.laid(0);
                    return moved.idAt;
                }));
    }

    /** The last part of an element is behind it: the end of the element is where it must be. */
    private static void movedBehind() {
        Expect.sentence("To read", "or the end of the element, where [an id] must be: it is behind the element", () ->
                atEach("the last one behind", (file, node) -> {
                    if (!node.hasElements()) {
                        return NONE;
                    }
                    boolean mayBeMissing = node.id == 24;
                    Node parent = file.parentOf(node);
                    Node moved = node.parts.remove(node.parts.size() - 1);
                    parent.parts.add(parent.parts.indexOf(node) + 1, moved);
                    file.laid(0);
                    return mayBeMissing ? moved.idAt : node.end;
                }));
    }

    /** The file is full, so that behind its last byte there is nothing at all. */
    private static void fullFiles() {
        Expect.sentence("To read", "a size that is not whole, or beyond the end, at the end of a full file", () -> {
            int[][] ends = {{236}, {236, 64}, {236, 127}, {236, 63}, {236, 129}, {236, 255}, {236, 64, 1}, {236, 130, 0},
                {24}, {0}, {236, 128, 236}};
            int[] places = {1, 1, 1, 1, 1, 1, 1, 1, 0, 0, 3};
            for (int k = 0; k < ends.length; k++) {
                Node file = file();
                int used = file.laid(0).length;
                file.parts.add(Node.gap(new int[1200 - used - 3 - ends[k].length]));
                Node rest = Node.bare(ends[k]);
                file.parts.add(rest);
                int[] bytes = file.laid(0);
                Expect.same("its size", bytes.length, 1200);
                due("ends with " + Arrays.toString(ends[k]), rest.at + places[k], bytes);
            }
        });
        Expect.sentence("To read", "a frame at the end of a full file", () -> {
            for (int cut = 0; cut <= 12; cut++) {
                Node body = Node.of(24, track(2, 2, 1, 2), frame(5));
                Node file = Node.of(Node.NO_ID, head(), body);
                int used = file.laid(0).length;
                Node block = body.parts.get(1).parts.get(1);
                block.bytes = Arrays.copyOf(block.bytes, block.bytes.length - cut);
                file.parts.add(1, Node.gap(new int[1200 - used + cut - 4]));
                body.wide = true;
                int[] bytes = file.laid(0);
                Expect.same("its size", bytes.length, 1200);
                int second = block.at + (block.bytes.length + cut) / 2;
                due("without its last " + cut, cut == 0 ? NONE : cut <= block.end + cut - second ? second : block.at, bytes);
            }
        });
    }

    private static void numbers() {
        Expect.sentence("To read", "a number: each at its edges, and all others", () -> {
            Node good = Node.of(Node.NO_ID, head(), Node.of(24, track(3, 3, 1, 1)));
            int[] bytes = good.laid(0);
            for (int value = 0; value < 256; value++) {
                boolean side = value >= 1 && value <= 6;
                numberDue(bytes, 4, value, value == 1);
                numberDue(bytes, 11, value, side);
                numberDue(bytes, 14, value, side);
                numberDue(bytes, 17, value, value == 1 || value == 3);
            }
        });
    }

    private static void numberDue(int[] good, int k, int value, boolean may) {
        int[] bytes = good.clone();
        bytes[k] = value;
        due("byte " + k + " is " + value, may ? NONE : k, bytes);
    }

    private static void codings() {
        Expect.sentence("Elements", "16 * mode + how many slices: 1 .. 3, not more than the height", () -> {
            for (int height = 1; height <= 6; height++) {
                for (int coding = 0; coding < 256; coding++) {
                    int slices = coding % 16;
                    boolean may = coding < 32 && slices >= 1 && slices <= 3 && slices <= height;
                    Node file = Node.of(Node.NO_ID, head(), Node.of(24, track(1, height, 1, coding)));
                    due("height " + height + ", coding " + coding, may ? NONE : 20, file.laid(0));
                }
            }
            due("the height is the fault, not the slices", 14,
                    Node.of(Node.NO_ID, head(), Node.of(24, track(1, 0, 1, 0))).laid(0));
        });
    }

    private static void times() {
        Expect.sentence("Terms", "a time greater than that of the one before", () -> {
            int[] some = {0, 1, 2, 254, 255, 256, 257, 511, 512, 32767, 32768, 65279, 65280, 65534, 65535};
            for (int first : some) {
                for (int second : some) {
                    Node file = Node.of(Node.NO_ID, head(), Node.of(24, track(2, 2, 1, 2), frame(first), frame(second)));
                    int[] bytes = file.laid(0);
                    Node time = file.parts.get(1).parts.get(2).parts.get(0);
                    due("times " + first + ", " + second, second > first ? NONE : time.at, bytes);
                }
            }
            for (int last : new int[] {4, 5, 6, 9, 10, 11}) {
                Node file = Node.of(Node.NO_ID, head(),
                        Node.of(24, track(2, 2, 1, 2), frame(5), frame(10), frame(last)));
                int[] bytes = file.laid(0);
                Node time = file.parts.get(1).parts.get(3).parts.get(0);
                due("times 5, 10, " + last, last > 10 ? NONE : time.at, bytes);
            }
        });
    }

    private static void fourthFrame() {
        Expect.sentence("To read", "more than 3 frames: the fourth one's id fails", () -> {
            for (int frames = 0; frames <= 5; frames++) {
                Node body = Node.of(24, track(2, 2, 1, 2));
                for (int frame = 0; frame < frames; frame++) {
                    body.parts.add(frame(frame));
                }
                Node file = Node.of(Node.NO_ID, head(), body);
                int[] bytes = file.laid(0);
                due(frames + " frames", frames > 3 ? body.parts.get(4).idAt : NONE, bytes);
            }
            Node[] fourths = {new Node(31), Node.bare(31), Node.bare(31, 255), frame(0), new Node(30), Node.bare(0)};
            for (Node fourth : fourths) {
                Node body = Node.of(24, track(2, 2, 1, 2), frame(1), frame(2), frame(3), Node.gap(31), fourth);
                int[] bytes = Node.of(Node.NO_ID, head(), body).laid(0);
                due("a fourth one that is wrong", fourth.idAt, bytes);
            }
        });
    }

    private static void places() {
        Expect.sentence("9", "the place: from 0; how many bytes it has, if more should come", () -> {
            due("the first byte", 0, new int[] {27, 131, 66, 129, 1});
            int[][] starts = {{}, {26}, {26, 128}, {26, 131, 66, 129, 1}, {26, 131, 66, 129, 1, 24},
                {26, 131, 66, 129, 1, 24, 128}, {26, 131, 66, 129, 1, 24, 130, 174, 128},
                {26, 131, 66, 129, 1, 24, 133, 174, 131, 176, 129, 1},
                {26, 131, 66, 129, 1, 24, 144, 174, 140, 176, 129, 1, 186, 129, 1, 83, 129, 1, 84, 129, 1, 31, 128}};
            for (int[] start : starts) {
                due("more should come behind " + start.length, start.length, start);
            }
        });
        Expect.sentence("9", "every start of a file fails, where its sizes say so", () -> {
            int[] bytes = file().laid(0);
            int[] due = {0, 1, 1, 1, 1, 5, 6};
            for (int n = 0; n < bytes.length; n++) {
                due("the first " + n, n < due.length ? due[n] : 6, Arrays.copyOf(bytes, n));
            }
        });
    }

    private static void wholeFiles() {
        Expect.sentence("9", "NONE, and shape and frames are what it has from now on", () -> {
            for (int frames = 0; frames <= 3; frames++) {
                DocModel.Picture picture = new DocModel.Picture();
                picture.width = 6 - frames;
                picture.height = 1 + frames;
                picture.planes = frames % 2 == 0 ? 3 : 1;
                picture.mode = frames % 2;
                for (int frame = 0; frame < frames; frame++) {
                    int[][][] samples = picture.add(frame * 32767);
                    for (int[][] plane : samples) {
                        plane[frames][5 - frames] = 255;
                    }
                }
                FrameVault vault = Vaults.withFile(DocModel.fileOf(picture));
                vault.shape(6, 6, 3);
                vault.frame(1);
                vault.frame(65535);
                Expect.same("read", vault.read(), NONE);
                Vaults.hasPicture(frames + " frames", vault, picture);
                Expect.same("read again", vault.read(), NONE);
                Vaults.hasPicture(frames + " frames, again", vault, picture);
            }
        });
        Expect.sentence("9", "or the place at which it fails, and they stay", () -> {
            FrameVault vault = Vaults.withFile(file().laid(0));
            Expect.same("read", vault.read(), NONE);
            Expect.same("frames", vault.about(0), 2);
            vault.type(0, 1);
            String before = Expect.stateOf(vault);
            Expect.same("a byte more", vault.read(), vault.size() - 1);
            Expect.same("a byte more, again", vault.read(), vault.size() - 1);
            Expect.same("what stays", Expect.stateOf(vault), before);
            Expect.same("the next frame", vault.frame(257), 2);
        });
    }
}
