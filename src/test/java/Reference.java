import java.math.BigInteger;
import java.util.ArrayList;
import java.util.List;

/** The document once more, in the plainest Java that follows its words; random runs are held against it. */
final class Reference {
    private static final class Wrong extends Exception {
        private static final long serialVersionUID = 1;
    }

    private static final class Ext {
        int number;
        boolean critical;
    }

    private static final class Cert {
        List<Integer> bytes;
        int serial;
        List<String> issuer;
        int from;
        int to;
        List<String> subject;
        int modulus;
        int exponent;
        int signature;
        int bodyHash;
        List<Ext> extensions = new ArrayList<>();
        boolean authority = false;
        Integer reach = null;
        Integer usage = null;
        List<List<String>> permitted = new ArrayList<>();
        List<List<String>> excluded = new ArrayList<>();
    }

    /** A content that is gone through from its beginning to its end. */
    private static final class Content {
        private final List<Integer> bytes;

        Content(List<Integer> bytes) {
            this.bytes = new ArrayList<>(bytes);
        }

        boolean isEmpty() {
            return bytes.isEmpty();
        }

        int size() {
            return bytes.size();
        }

        boolean next(int tag) {
            return !bytes.isEmpty() && bytes.get(0) == tag;
        }

        int one() throws Wrong {
            if (bytes.isEmpty()) {
                throw new Wrong();
            }
            return bytes.remove(0);
        }

        Content element(int tag) throws Wrong {
            if (one() != tag) {
                throw new Wrong();
            }
            int size = one();
            if (size == 129) {
                size = one();
                if (size < 128) {
                    throw new Wrong();
                }
            } else if (size >= 128) {
                throw new Wrong();
            }
            if (size > bytes.size()) {
                throw new Wrong();
            }
            List<Integer> part = bytes.subList(0, size);
            Content content = new Content(part);
            part.clear();
            return content;
        }

        void end() throws Wrong {
            if (!bytes.isEmpty()) {
                throw new Wrong();
            }
        }

        int integer(int least, int most) throws Wrong {
            Content content = element(2);
            int size = content.size();
            if (size < 1 || size > 4 || content.bytes.get(0) >= 128) {
                throw new Wrong();
            }
            if (size > 1 && content.bytes.get(0) == 0 && content.bytes.get(1) < 128) {
                throw new Wrong();
            }
            long value = 0;
            while (!content.isEmpty()) {
                value = 256 * value + content.one();
            }
            if (value < least || value > most) {
                throw new Wrong();
            }
            return (int) value;
        }

        boolean perhapsTrue() throws Wrong {
            if (!next(1)) {
                return false;
            }
            Content content = element(1);
            if (content.one() != 255) {
                throw new Wrong();
            }
            content.end();
            return true;
        }

        List<String> name() throws Wrong {
            Content content = element(48);
            List<String> labels = new ArrayList<>();
            while (!content.isEmpty()) {
                Content label = content.element(19);
                StringBuilder text = new StringBuilder();
                while (!label.isEmpty()) {
                    text.append((char) label.one());
                }
                if (!text.toString().matches("[a-z]{1,8}")) {
                    throw new Wrong();
                }
                labels.add(text.toString());
            }
            if (labels.size() > 4) {
                throw new Wrong();
            }
            return labels;
        }

        List<List<String>> names(int tag) throws Wrong {
            List<List<String>> names = new ArrayList<>();
            if (!next(tag)) {
                return names;
            }
            Content content = element(tag);
            while (!content.isEmpty()) {
                names.add(content.name());
            }
            if (names.isEmpty() || names.size() > 3) {
                throw new Wrong();
            }
            return names;
        }
    }

    private final List<Integer> buffer = new ArrayList<>();
    private final List<Cert> certs = new ArrayList<>();
    private final List<Integer> path = new ArrayList<>();

    boolean feed(int w, int n) {
        if (n < 1 || n > 4 || buffer.size() + n > 160) {
            return false;
        }
        byte[] four = java.nio.ByteBuffer.allocate(4).putInt(w).array();
        for (int k = 4 - n; k < 4; k++) {
            buffer.add(four[k] & 255);
        }
        return true;
    }

    boolean set(int k, int b) {
        if (k < 0 || k >= buffer.size() || b < 0 || b > 255) {
            return false;
        }
        buffer.set(k, b);
        return true;
    }

    boolean trim(int n) {
        if (n < 0 || n > buffer.size()) {
            return false;
        }
        buffer.subList(n, buffer.size()).clear();
        return true;
    }

    int length() {
        return buffer.size();
    }

    int byteAt(int k) {
        return k < 0 || k >= buffer.size() ? -1 : buffer.get(k);
    }

    int hash(int from, int to) {
        return 0 <= from && from <= to && to <= buffer.size() ? hashOf(buffer.subList(from, to)) : -1;
    }

    private static int hashOf(List<Integer> bytes) {
        BigInteger h = BigInteger.ZERO;
        for (int b : bytes) {
            h = h.multiply(BigInteger.valueOf(263)).add(BigInteger.valueOf(b + 1)).mod(BigInteger.valueOf(1000003));
        }
        return h.intValue();
    }

    int accept() {
        Cert c;
        try {
            c = read(buffer);
        } catch (Wrong wrong) {
            return -1;
        }
        if (certs.size() == 8) {
            return -2;
        }
        certs.add(c);
        return certs.size() - 1;
    }

    private static Cert read(List<Integer> bytes) throws Wrong {
        Cert c = new Cert();
        c.bytes = new ArrayList<>(bytes);
        Content all = new Content(bytes);
        Content whole = all.element(48);
        all.end();
        List<Integer> before = new ArrayList<>(whole.bytes);
        Content body = whole.element(48);
        c.bodyHash = hashOf(before.subList(0, before.size() - whole.size()));
        c.signature = whole.integer(0, Integer.MAX_VALUE);
        whole.end();
        c.serial = body.integer(0, Integer.MAX_VALUE);
        c.issuer = body.name();
        Content times = body.element(48);
        c.from = times.integer(0, Integer.MAX_VALUE);
        c.to = times.integer(0, Integer.MAX_VALUE);
        times.end();
        c.subject = body.name();
        Content key = body.element(48);
        c.modulus = key.integer(2, Integer.MAX_VALUE);
        c.exponent = key.integer(1, 1000);
        key.end();
        if (!body.isEmpty()) {
            Content fourth = body.element(163);
            body.end();
            Content list = fourth.element(48);
            fourth.end();
            while (!list.isEmpty()) {
                readExtension(c, list.element(48));
            }
            if (c.extensions.isEmpty() || c.extensions.size() > 4) {
                throw new Wrong();
            }
        }
        return c;
    }

    private static void readExtension(Cert c, Content content) throws Wrong {
        Ext e = new Ext();
        e.number = content.integer(0, 255);
        e.critical = content.perhapsTrue();
        Content octets = content.element(4);
        content.end();
        for (Ext other : c.extensions) {
            if (other.number == e.number) {
                throw new Wrong();
            }
        }
        c.extensions.add(e);
        if (e.number == 1) {
            Content basic = octets.element(48);
            c.authority = basic.perhapsTrue();
            if (c.authority && !basic.isEmpty()) {
                c.reach = basic.integer(0, Integer.MAX_VALUE);
            }
            basic.end();
            octets.end();
        } else if (e.number == 2) {
            c.usage = usageOf(octets.element(3));
            octets.end();
        } else if (e.number == 3) {
            Content bounds = octets.element(48);
            c.permitted = bounds.names(160);
            c.excluded = bounds.names(161);
            bounds.end();
            octets.end();
            if (c.permitted.isEmpty() && c.excluded.isEmpty()) {
                throw new Wrong();
            }
        } else if (octets.size() > 20) {
            throw new Wrong();
        }
    }

    /** Tries every set: the one whose bytes are these is the one. */
    private static int usageOf(Content bits) throws Wrong {
        for (int set = 0; set < 256; set++) {
            List<Integer> bytes = new ArrayList<>();
            if (set == 0) {
                bytes.add(0);
            } else {
                int second = 0;
                int behind = 8;
                for (int k = 0; k < 8; k++) {
                    if ((set >> k & 1) == 1) {
                        second += 1 << (7 - k);
                        behind = 7 - k;
                    }
                }
                bytes.add(behind);
                bytes.add(second);
            }
            if (bytes.equals(bits.bytes)) {
                return set;
            }
        }
        throw new Wrong();
    }

    int count() {
        return certs.size();
    }

    private boolean kept(int i) {
        return 0 <= i && i < certs.size();
    }

    int field(int i, int k) {
        if (!kept(i) || k < 0 || k > 14) {
            return -1;
        }
        Cert c = certs.get(i);
        int[] all = {c.serial, c.from, c.to, c.modulus, c.exponent, c.signature, c.bodyHash, c.authority ? 1 : 0,
            c.reach == null ? -1 : c.reach, c.usage == null ? -1 : c.usage, c.extensions.size(), c.permitted.size(),
            c.excluded.size(), c.issuer.size(), c.subject.size()};
        return all[k];
    }

    private static boolean isWithin(List<String> name, List<String> other) {
        return name.size() >= other.size() && name.subList(0, other.size()).equals(other);
    }

    boolean within(int i, boolean issuerI, int j, boolean issuerJ) {
        return kept(i) && kept(j) && isWithin(issuerI ? certs.get(i).issuer : certs.get(i).subject,
            issuerJ ? certs.get(j).issuer : certs.get(j).subject);
    }

    int recode(int i) {
        if (!kept(i)) {
            return -1;
        }
        buffer.clear();
        buffer.addAll(certs.get(i).bytes);
        return buffer.size();
    }

    boolean link(int i) {
        return kept(i) && path.size() < 6 && path.add(i);
    }

    boolean unlink() {
        if (path.isEmpty()) {
            return false;
        }
        path.remove(path.size() - 1);
        return true;
    }

    int links() {
        return path.size();
    }

    int check(int anchor, int time, int usage) {
        if (!kept(anchor) || path.isEmpty() || usage < 0 || usage > 255) {
            return -1;
        }
        Cert a = certs.get(anchor);
        int modulus = a.modulus;
        int exponent = a.exponent;
        List<String> holder = a.subject;
        int rest = path.size();
        List<List<List<String>>> permitted = new ArrayList<>();
        List<List<String>> excluded = new ArrayList<>();
        for (int p = 0; p < path.size(); p++) {
            Cert c = certs.get(path.get(p));
            boolean last = p == path.size() - 1;
            boolean selfIssued = c.issuer.equals(c.subject);
            if (!signed(c, modulus, exponent)) {
                return 16 * p + 1;
            }
            if (!(c.from <= time && time <= c.to)) {
                return 16 * p + 2;
            }
            if (!c.issuer.equals(holder)) {
                return 16 * p + 3;
            }
            if (!(selfIssued && !last)) {
                boolean inEach = permitted.stream().allMatch(l -> l.stream().anyMatch(n -> isWithin(c.subject, n)));
                if (!inEach || excluded.stream().anyMatch(n -> isWithin(c.subject, n))) {
                    return 16 * p + 4;
                }
            }
            if (c.extensions.stream().anyMatch(e -> e.critical && (e.number < 1 || e.number > 3))) {
                return 16 * p + 5;
            }
            if (last) {
                return c.usage != null && (c.usage & usage) != usage ? 16 * p + 9 : 0;
            }
            if (!c.authority) {
                return 16 * p + 6;
            }
            if (!selfIssued) {
                if (rest <= 0) {
                    return 16 * p + 7;
                }
                rest--;
            }
            if (c.reach != null && c.reach < rest) {
                rest = c.reach;
            }
            if (c.usage != null && (c.usage >> 5 & 1) == 0) {
                return 16 * p + 8;
            }
            if (!c.permitted.isEmpty()) {
                permitted.add(c.permitted);
            }
            excluded.addAll(c.excluded);
            modulus = c.modulus;
            exponent = c.exponent;
            holder = c.subject;
        }
        throw new IllegalStateException("the last one always answers");
    }

    private static boolean signed(Cert c, int modulus, int exponent) {
        BigInteger m = BigInteger.valueOf(modulus);
        BigInteger power = BigInteger.valueOf(c.signature).modPow(BigInteger.valueOf(exponent), m);
        return c.signature < modulus && power.equals(BigInteger.valueOf(c.bodyHash).mod(m));
    }

    void reset() {
        certs.clear();
        path.clear();
    }
}
