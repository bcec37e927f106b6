import java.util.ArrayList;
import java.util.Arrays;
import java.util.List;

/**
 * A part of a file: an element, or bare bytes (NO_ID). When it is laid out, it knows at which byte
 * of the file its id, its size and what it has are.
 */
final class Node {
    static final int NO_ID = -1;

    int id;
    boolean wide = false;
    int[] bytes;
    final List<Node> parts = new ArrayList<>();
    int idAt;
    int sizeAt;
    int at;
    int end;

    Node(int id, int... bytes) {
        this.id = id;
        this.bytes = bytes;
    }

    static Node of(int id, Node... parts) {
        Node node = new Node(id);
        node.parts.addAll(Arrays.asList(parts));
        return node;
    }

    static Node bare(int... bytes) {
        return new Node(NO_ID, bytes);
    }

    static Node gap(int... bytes) {
        return new Node(236, bytes);
    }

    boolean hasElements() {
        return !parts.isEmpty();
    }

    /** The part of this one, or of its parts, that has an element directly. */
    Node parentOf(Node part) {
        if (parts.contains(part)) {
            return this;
        }
        Node found = null;
        for (Node own : parts) {
            found = found == null ? own.parentOf(part) : found;
        }
        return found;
    }

    /** This and all parts of it, in the order of the file. */
    List<Node> all() {
        List<Node> all = new ArrayList<>();
        all.add(this);
        for (Node part : parts) {
            all.addAll(part.all());
        }
        return all;
    }

    private int length() {
        int length = bytes.length;
        for (Node part : parts) {
            length += part.headLength() + part.length();
        }
        return length;
    }

    private int headLength() {
        return id == NO_ID ? 0 : isWide() ? 3 : 2;
    }

    private boolean isWide() {
        return wide || length() > 126;
    }

    /** The bytes of this part, which begins at a place of the file; the file itself begins at 0. */
    int[] laid(int from) {
        int many = length();
        idAt = from;
        sizeAt = id == NO_ID ? from : from + 1;
        at = from + headLength();
        end = at + many;
        int[] head = {id, 128 + many};
        if (isWide()) {
            head = new int[] {id, 64 + many / 256, many % 256};
        }
        int[] all = DocModel.join(id == NO_ID ? new int[0] : head, bytes);
        for (Node part : parts) {
            all = DocModel.join(all, part.laid(from + all.length));
        }
        return all;
    }
}
