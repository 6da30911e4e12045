import java.math.BigInteger;

/** Writes elements for tests, right ones and, where a test puts in odd contents, wrong ones. */
final class Encoding {
    static final int[] TRUE = element(1, bytes(255));

    private Encoding() {
    }

    static int[] bytes(int... b) {
        return b;
    }

    static int[] repeated(int b, int times) {
        int[] row = new int[times];
        java.util.Arrays.fill(row, b);
        return row;
    }

    static int[] join(int[]... parts) {
        int size = 0;
        for (int[] part : parts) {
            size += part.length;
        }
        int[] row = new int[size];
        int at = 0;
        for (int[] part : parts) {
            System.arraycopy(part, 0, row, at, part.length);
            at += part.length;
        }
        return row;
    }

    static int[] element(int tag, int[]... parts) {
        int[] content = join(parts);
        int[] head = content.length < 128 ? bytes(tag, content.length) : bytes(tag, 129, content.length);
        return join(head, content);
    }

    static int[] sequence(int[]... parts) {
        return element(48, parts);
    }

    static int[] integer(long value) {
        byte[] big = BigInteger.valueOf(value).toByteArray();
        int[] content = new int[big.length];
        for (int k = 0; k < big.length; k++) {
            content[k] = big[k] & 255;
        }
        return element(2, content);
    }

    static int[] label(String letters) {
        int[] content = new int[letters.length()];
        for (int k = 0; k < content.length; k++) {
            content[k] = letters.charAt(k);
        }
        return element(19, content);
    }

    /** The labels stand between dots; the empty text is the name without labels. */
    static int[] name(String dotted) {
        if (dotted.isEmpty()) {
            return sequence();
        }
        String[] texts = dotted.split("\\.");
        int[][] labels = new int[texts.length][];
        for (int k = 0; k < texts.length; k++) {
            labels[k] = label(texts[k]);
        }
        return sequence(labels);
    }

    static int[] names(int tag, String... dotted) {
        int[][] parts = new int[dotted.length][];
        for (int k = 0; k < dotted.length; k++) {
            parts[k] = name(dotted[k]);
        }
        return element(tag, parts);
    }

    static int[] bits(int... numbers) {
        if (numbers.length == 0) {
            return element(3, bytes(0));
        }
        int highest = 0;
        int second = 0;
        for (int n : numbers) {
            highest = Math.max(highest, n);
            second |= 128 >> n;
        }
        return element(3, bytes(7 - highest, second));
    }

    static int[] extension(int number, boolean critical, int[] octets) {
        return sequence(integer(number), critical ? TRUE : bytes(), element(4, octets));
    }

    static int[] authority() {
        return extension(1, false, sequence(TRUE));
    }

    static int[] authority(int reach) {
        return extension(1, false, sequence(TRUE, integer(reach)));
    }

    static int[] usage(int... numbers) {
        return extension(2, false, bits(numbers));
    }

    static int[] permitted(String... names) {
        return extension(3, false, sequence(names(160, names)));
    }

    static int[] excluded(String... names) {
        return extension(3, false, sequence(names(161, names)));
    }

    static int[] bounds(String[] permitted, String[] excluded) {
        return extension(3, false, sequence(names(160, permitted), names(161, excluded)));
    }

    static int hash(int[] bytes) {
        long h = 0;
        for (int b : bytes) {
            h = (263 * h + b + 1) % 1000003;
        }
        return (int) h;
    }

    /** Four bytes a call, since an object is good for 512 calls only. */
    static void load(CertificatePath x, int[] bytes) {
        x.trim(0);
        for (int at = 0; at < bytes.length; at += 4) {
            int n = Math.min(4, bytes.length - at);
            int w = 0;
            for (int k = at; k < at + n; k++) {
                w = w << 8 | bytes[k];
            }
            x.feed(w, n);
        }
    }
}
