import java.util.function.Consumer;
import java.util.function.Supplier;

/** All that calls can tell of an object, so that a call that must change nothing can be held against no call. */
final class Sight {
    private static final int TIME = 50;

    private Sight() {
    }

    /**
     * Makes two objects in the same way, does the refused call on one of them, and compares what both tell.
     * Each object is looked at once, since the look itself uses up its path and its buffer.
     */
    static void unchanged(Due due, String what, Supplier<CertificatePath> maker, Consumer<CertificatePath> call) {
        CertificatePath x = maker.get();
        CertificatePath twin = maker.get();
        call.accept(x);
        due.text(what + ": what can be seen", of(x), of(twin));
    }

    static String of(CertificatePath x) {
        StringBuilder text = new StringBuilder();
        buffer(x, text);
        text.append(" links ").append(x.links()).append(" count ").append(x.count()).append(" path");
        path(x, text);
        for (int i = 0; i < x.count(); i++) {
            certificate(x, i, text);
        }
        return text.toString();
    }

    private static void buffer(CertificatePath x, StringBuilder text) {
        int length = x.length();
        text.append("length ").append(length).append(":");
        for (int k = 0; k <= length; k++) {
            text.append(' ').append(x.byteAt(k));
        }
    }

    /** With the certificates of full() the three answers tell which one is the last of the path. */
    private static void path(CertificatePath x, StringBuilder text) {
        do {
            text.append(" (");
            for (int usage = 1; usage <= 4; usage *= 2) {
                text.append(' ').append(x.check(0, TIME, usage));
            }
            text.append(')');
        } while (x.unlink());
    }

    private static void certificate(CertificatePath x, int i, StringBuilder text) {
        text.append(" certificate ").append(i).append(':');
        for (int k = 0; k <= 14; k++) {
            text.append(' ').append(x.field(i, k));
        }
        int size = x.recode(i);
        text.append(" bytes ").append(size).append(' ').append(x.hash(0, size));
    }

    /** A certificate that may stand anywhere in a path, and whose usage tells its number in three bits. */
    static Draft numbered(int i) {
        int[] numbers = new int[1 + Integer.bitCount(i)];
        numbers[0] = 5;
        int at = 1;
        for (int k = 0; k < 3; k++) {
            if ((i >> k & 1) == 1) {
                numbers[at++] = k;
            }
        }
        return new Draft().key(2, 1).with(Encoding.authority(), Encoding.usage(numbers)).signedBy(2, 1);
    }

    /** So many of those certificates kept, a path of the numbers told, and the bytes in the buffer. */
    static CertificatePath state(int count, int[] path, int[] buffer) {
        CertificatePath x = new CertificatePath();
        for (int i = 0; i < count; i++) {
            numbered(i).keptBy(x);
        }
        for (int i : path) {
            x.link(i);
        }
        Encoding.load(x, buffer);
        return x;
    }

    /** Eight kept, six in the path. */
    static CertificatePath full() {
        return state(8, new int[] {7, 3, 3, 0, 5, 6}, new int[] {1, 2, 3});
    }

    /** Three kept, two in the path. */
    static CertificatePath some() {
        return state(3, new int[] {2, 1}, new int[] {9, 0, 255, 48});
    }
}
