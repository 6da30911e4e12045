import java.util.ArrayList;
import java.util.List;

/** A certificate as a tree of elements, for tests that do the same thing to every element of it. */
final class Tree {
    final int tag;
    final Tree parent;
    /** Empty in a leaf; a leaf's bytes are its content. */
    final List<Tree> parts = new ArrayList<>();
    private final int[] content;

    private Tree(int tag, int[] content, Tree parent) {
        this.tag = tag;
        this.content = content;
        this.parent = parent;
        if (hasParts()) {
            split();
        }
    }

    /** The bytes must be a right certificate, or a right extension. */
    static Tree of(int[] bytes) {
        int from = bytes[1] == 129 ? 3 : 2;
        return new Tree(bytes[0], slice(bytes, from, bytes.length), null);
    }

    private static int[] slice(int[] bytes, int from, int to) {
        return java.util.Arrays.copyOfRange(bytes, from, to);
    }

    boolean hasParts() {
        return tag == 48 || tag == 160 || tag == 161 || tag == 163 || tag == 4 && isInKnownExtension();
    }

    private boolean isInKnownExtension() {
        int number = parent.parts.get(0).content[0];
        return number >= 1 && number <= 3;
    }

    private void split() {
        int at = 0;
        while (at < content.length) {
            boolean isLong = content[at + 1] == 129;
            int from = isLong ? at + 3 : at + 2;
            int to = from + (isLong ? content[at + 2] : content[at + 1]);
            parts.add(new Tree(content[at], slice(content, from, to), this));
            at = to;
        }
    }

    /** This element and all within it. */
    List<Tree> all() {
        List<Tree> row = new ArrayList<>();
        row.add(this);
        for (Tree part : parts) {
            row.addAll(part.all());
        }
        return row;
    }

    int[] content() {
        return content.clone();
    }

    int[] bytes() {
        return Encoding.element(tag, content);
    }

    /** The bytes of this element with others in the place of those of one within it; the lengths around follow. */
    int[] with(Tree one, int[] others) {
        if (this == one) {
            return others;
        }
        if (parts.isEmpty()) {
            return bytes();
        }
        int[][] row = new int[parts.size()][];
        for (int k = 0; k < row.length; k++) {
            row[k] = parts.get(k).with(one, others);
        }
        return Encoding.element(tag, row);
    }

    /** The bytes of this element with more of them in one within it, before its part k. */
    int[] withInside(Tree one, int k, int[] more) {
        int[][] row = new int[one.parts.size() + 1][];
        for (int n = 0; n < row.length; n++) {
            row[n] = n == k ? more : one.parts.get(n < k ? n : n - 1).bytes();
        }
        return with(one, Encoding.element(one.tag, row));
    }

    /** This element with only so many of the first bytes of its content; the lengths of what is cut within it follow. */
    int[] cut(int size) {
        int left = size;
        int[] row = {};
        for (Tree part : parts) {
            int[] bytes = part.bytes();
            int taken = Math.min(left, bytes.length);
            boolean isCut = taken < bytes.length && taken >= 2;
            row = Encoding.join(row, isCut ? part.cut(taken - 2) : slice(bytes, 0, taken));
            left -= taken;
        }
        return Encoding.element(tag, parts.isEmpty() ? slice(content, 0, size) : row);
    }

    /** Where it stands: the tags from the outermost inwards. */
    String told() {
        return (parent == null ? "" : parent.told() + " " + parent.parts.indexOf(this) + ":") + tag;
    }
}
