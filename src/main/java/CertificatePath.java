/**
 * Reads certificates from bytes in their one allowed encoding, writes them again, and checks a path of them.
 *
 * <p>Every row and object is made by the constructor and used again, so that no later call makes any.
 */
public final class CertificatePath {
    public static final int NONE = -1;
    public static final int FULL = -2;

    private static final int BUFFER_ROOM = 160;
    private static final int MOST_CERTIFICATES = 8;
    private static final int MOST_LINKS = 6;
    private static final int MOST_LABELS = 4;
    private static final int MOST_LETTERS = 8;
    private static final int MOST_NAMES = 3;
    private static final int MOST_EXTENSIONS = 4;
    private static final int MOST_OCTETS = 20;

    /** A label in a list of names: certificate, body, FOURTH, list, extension, octets, bounds, FIRST, name, label. */
    private static final int MOST_OPEN = 10;

    private static final int MOST_NUMBER = 2147483647;
    private static final int MOST_EXPONENT = 1000;
    private static final int MOST_BYTE = 255;
    private static final int ALL_USAGES = 255;
    private static final int SIGNING_USAGE = 1 << 5;

    private static final int HASH_FACTOR = 263;
    private static final int HASH_DIVISOR = 1000003;

    private static final int SHORT_LENGTH_MOST = 127;
    private static final int LONG_LENGTH_MARK = 129;

    private static final int TAG_TRUE = 1;
    private static final int TAG_INTEGER = 2;
    private static final int TAG_BITS = 3;
    private static final int TAG_OCTETS = 4;
    private static final int TAG_LABEL = 19;
    private static final int TAG_SEQUENCE = 48;
    private static final int TAG_FIRST = 160;
    private static final int TAG_SECOND = 161;
    private static final int TAG_FOURTH = 163;

    private static final int BASIC = 1;
    private static final int USAGE = 2;
    private static final int BOUNDS = 3;

    private static final int HOLDS = 0;
    private static final int NOT_SIGNED = 1;
    private static final int NOT_IN_TIME = 2;
    private static final int NOT_ISSUED_BY_HOLDER = 3;
    private static final int NAME_OUT_OF_BOUNDS = 4;
    private static final int UNKNOWN_CRITICAL = 5;
    private static final int NO_AUTHORITY = 6;
    private static final int NO_REST = 7;
    private static final int MAY_NOT_SIGN = 8;
    private static final int USAGE_MISSING = 9;

    private final Reader reader;

    /** The reader's own row: what is fed is read where it lies. */
    private final ByteRow buffer;

    /** One more than are kept: accept() must read a ninth to tell FULL from NONE. */
    private final Certificate[] certificates;

    private int kept;
    private final int[] path;
    private int linked;

    public CertificatePath() {
        reader = new Reader();
        buffer = reader.row;
        certificates = new Certificate[MOST_CERTIFICATES + 1];
        for (int i = 0; i < certificates.length; i++) {
            certificates[i] = new Certificate();
        }
        kept = 0;
        path = new int[MOST_LINKS];
        linked = 0;
    }

    public boolean feed(int w, int n) {
        if (n < 1 || n > 4 || n > BUFFER_ROOM - buffer.size) {
            return false;
        }
        for (int k = n - 1; k >= 0; k--) {
            buffer.append((w >>> (8 * k)) & MOST_BYTE);
        }
        return true;
    }

    public boolean set(int k, int b) {
        if (!buffer.has(k) || b < 0 || b > MOST_BYTE) {
            return false;
        }
        buffer.bytes[k] = b;
        return true;
    }

    public boolean trim(int n) {
        if (n < 0 || n > buffer.size) {
            return false;
        }
        buffer.size = n;
        return true;
    }

    public int length() {
        return buffer.size;
    }

    public int byteAt(int k) {
        return buffer.has(k) ? buffer.bytes[k] : NONE;
    }

    public int hash(int from, int to) {
        if (from < 0 || from > to || to > buffer.size) {
            return NONE;
        }
        return buffer.hashBetween(from, to);
    }

    public int accept() {
        if (!certificates[kept].readFrom(reader)) {
            return NONE;
        }
        if (kept == MOST_CERTIFICATES) {
            return FULL;
        }
        kept++;
        return kept - 1;
    }

    public int count() {
        return kept;
    }

    public int field(int i, int k) {
        return isKept(i) ? certificates[i].fieldNumbered(k) : NONE;
    }

    public boolean within(int i, boolean issuerI, int j, boolean issuerJ) {
        if (!isKept(i) || !isKept(j)) {
            return false;
        }
        return nameOf(i, issuerI).isWithin(nameOf(j, issuerJ));
    }

    public int recode(int i) {
        if (!isKept(i)) {
            return NONE;
        }
        buffer.size = 0;
        certificates[i].writeTo(buffer);
        return buffer.size;
    }

    public boolean link(int i) {
        if (!isKept(i) || linked == MOST_LINKS) {
            return false;
        }
        path[linked] = i;
        linked++;
        return true;
    }

    public boolean unlink() {
        if (linked == 0) {
            return false;
        }
        linked--;
        return true;
    }

    public int links() {
        return linked;
    }

    public int check(int anchor, int time, int usage) {
        if (!isKept(anchor) || linked == 0 || usage < 0 || usage > ALL_USAGES) {
            return NONE;
        }
        Certificate holder = certificates[anchor];
        int rest = linked;
        for (int place = 0; place < linked; place++) {
            Certificate next = certificates[path[place]];
            boolean last = place == linked - 1;
            int broken = brokenAnywhere(holder, place, time);
            if (broken == HOLDS) {
                broken = last ? next.brokenAsLast(usage) : next.brokenAsHolder(rest);
            }
            if (broken != HOLDS) {
                return 16 * place + broken;
            }
            rest = next.restBehind(rest);
            holder = next;
        }
        return 0;
    }

    public void reset() {
        kept = 0;
        linked = 0;
    }

    private boolean isKept(int i) {
        return i >= 0 && i < kept;
    }

    private Name nameOf(int i, boolean issuer) {
        return issuer ? certificates[i].issuer : certificates[i].subject;
    }

    /** The first of the conditions 1 to 5, which every certificate of the path is under, that is broken. */
    private int brokenAnywhere(Certificate holder, int place, int time) {
        Certificate next = certificates[path[place]];
        boolean last = place == linked - 1;
        if (!next.isSignedBy(holder.modulus, holder.exponent)) {
            return NOT_SIGNED;
        }
        if (time < next.from || time > next.to) {
            return NOT_IN_TIME;
        }
        if (!next.issuer.isSameAs(holder.subject)) {
            return NOT_ISSUED_BY_HOLDER;
        }
        if ((last || !next.isSelfIssued()) && !isWithinBoundsBefore(place)) {
            return NAME_OUT_OF_BOUNDS;
        }
        return next.hasUnknownCritical() ? UNKNOWN_CRITICAL : HOLDS;
    }

    /** The bounds in force at a place are just those of the certificates before it, so no lists are gathered. */
    private boolean isWithinBoundsBefore(int place) {
        Name subject = certificates[path[place]].subject;
        for (int earlier = 0; earlier < place; earlier++) {
            if (!certificates[path[earlier]].allows(subject)) {
                return false;
            }
        }
        return true;
    }

    /** A row of bytes that grows at its end; what does not fit in is left out. */
    private static final class ByteRow {
        private final int[] bytes;
        private int size;

        ByteRow() {
            bytes = new int[BUFFER_ROOM];
            size = 0;
        }

        boolean has(int k) {
            return k >= 0 && k < size;
        }

        int hashBetween(int from, int to) {
            int h = 0;
            for (int k = from; k < to; k++) {
                h = (HASH_FACTOR * h + bytes[k] + 1) % HASH_DIVISOR;
            }
            return h;
        }

        /** Answers the place behind the byte: where a content begins, if the byte is a tag. */
        int append(int b) {
            if (size < bytes.length) {
                bytes[size] = b;
                size++;
            }
            return size;
        }

        /** Ends an element whose content begins at from: its length is known only now, and goes in before it. */
        void insertLength(int from) {
            int contentSize = size - from;
            int lengthSize = contentSize > SHORT_LENGTH_MOST ? 2 : 1;
            if (from < 0 || contentSize < 0 || lengthSize > bytes.length - size) {
                return;
            }
            for (int k = size - 1; k >= from; k--) {
                bytes[k + lengthSize] = bytes[k];
            }
            size += lengthSize;
            bytes[from + lengthSize - 1] = contentSize;
            if (lengthSize == 2) {
                bytes[from] = LONG_LENGTH_MARK;
            }
        }

        void appendInteger(int value) {
            int content = append(TAG_INTEGER);
            int needed = 1;
            while (needed < 4 && value >>> (8 * needed - 1) != 0) {
                needed++;
            }
            for (int k = needed - 1; k >= 0; k--) {
                append((value >>> (8 * k)) & MOST_BYTE);
            }
            insertLength(content);
        }

        void appendTrue() {
            int content = append(TAG_TRUE);
            append(MOST_BYTE);
            insertLength(content);
        }
    }

    /** Goes through its row element by element; after the first fault it finds nothing more, so callers ask once. */
    private static final class Reader {
        private final ByteRow row;

        /** Where the open elements end, the innermost at depth; at 0 stands the end of the row. */
        private final int[] ends;

        private int depth;
        private int at;
        private boolean sound;

        Reader() {
            row = new ByteRow();
            ends = new int[MOST_OPEN + 1];
            depth = 0;
            at = 0;
            sound = false;
        }

        void start() {
            depth = 0;
            ends[0] = row.size;
            at = 0;
            sound = true;
        }

        void refuse() {
            sound = false;
        }

        boolean isAtEndOfRow() {
            return sound && depth == 0 && at == ends[0];
        }

        int remaining() {
            return sound ? ends[depth] - at : 0;
        }

        int hashSince(int from) {
            return row.hashBetween(from, at);
        }

        boolean nextIs(int tag) {
            return sound && at < ends[depth] && row.bytes[at] == tag;
        }

        int readByte() {
            if (!sound || at >= ends[depth]) {
                sound = false;
                return 0;
            }
            at++;
            return row.bytes[at - 1];
        }

        void open(int tag) {
            int end = ends[depth];
            if (!sound || depth + 1 >= ends.length || end - at < 2 || row.bytes[at] != tag) {
                sound = false;
                return;
            }
            int size = row.bytes[at + 1];
            int from = at + 2;
            if (size > SHORT_LENGTH_MOST) {
                if (size != LONG_LENGTH_MARK || from >= end || row.bytes[from] <= SHORT_LENGTH_MOST) {
                    sound = false;
                    return;
                }
                size = row.bytes[from];
                from++;
            }
            if (size > end - from) {
                sound = false;
                return;
            }
            at = from;
            depth++;
            ends[depth] = from + size;
        }

        void close() {
            if (!sound || depth == 0 || at != ends[depth]) {
                sound = false;
                return;
            }
            depth--;
        }

        int readInteger(int least, int most) {
            open(TAG_INTEGER);
            int size = remaining();
            if (size < 1 || size > 4) {
                refuse();
                return least;
            }
            int first = readByte();
            int value = first;
            for (int k = 1; k < size; k++) {
                int b = readByte();
                if (k == 1 && first == 0 && b < 128) {
                    refuse();
                }
                value = value << 8 | b;
            }
            close();
            if (first > 127 || value < least || value > most) {
                refuse();
                return least;
            }
            return value;
        }

        /** Whether there is a TRUE next, which is read then; anything else stays unread. */
        boolean readTrueIfThere() {
            if (!nextIs(TAG_TRUE)) {
                return false;
            }
            open(TAG_TRUE);
            if (readByte() != MOST_BYTE) {
                refuse();
            }
            close();
            return true;
        }
    }

    private static final class Name {
        /** Eight bits a letter: no letter is 0, so that two labels are the same just if their numbers are. */
        private final long[] labels;

        private int size;

        Name() {
            labels = new long[MOST_LABELS];
            size = 0;
        }

        boolean isWithin(Name other) {
            if (size < other.size) {
                return false;
            }
            for (int k = 0; k < other.size; k++) {
                if (labels[k] != other.labels[k]) {
                    return false;
                }
            }
            return true;
        }

        boolean isSameAs(Name other) {
            return size == other.size && isWithin(other);
        }

        void readFrom(Reader in) {
            size = 0;
            in.open(TAG_SEQUENCE);
            while (size < labels.length && in.remaining() > 0) {
                in.open(TAG_LABEL);
                long label = 0;
                for (int k = 0; k < MOST_LETTERS && in.remaining() > 0; k++) {
                    int letter = in.readByte();
                    if (letter < 'a' || letter > 'z') {
                        in.refuse();
                    }
                    label = label << 8 | letter;
                }
                if (label == 0) {
                    in.refuse();
                }
                in.close();
                labels[size] = label;
                size++;
            }
            in.close();
        }

        void writeTo(ByteRow out) {
            int content = out.append(TAG_SEQUENCE);
            for (int k = 0; k < size; k++) {
                int letters = out.append(TAG_LABEL);
                for (int shift = 8 * (MOST_LETTERS - 1); shift >= 0; shift -= 8) {
                    int letter = (int) (labels[k] >>> shift) & MOST_BYTE;
                    if (letter != 0) {
                        out.append(letter);
                    }
                }
                out.insertLength(letters);
            }
            out.insertLength(content);
        }
    }

    /** The names permitted, or those excluded, by one certificate; it is empty where none are told. */
    private static final class NameList {
        private final Name[] names;
        private int size;

        NameList() {
            names = new Name[MOST_NAMES];
            for (int k = 0; k < names.length; k++) {
                names[k] = new Name();
            }
            size = 0;
        }

        boolean covers(Name name) {
            for (int k = 0; k < size; k++) {
                if (name.isWithin(names[k])) {
                    return true;
                }
            }
            return false;
        }

        void readIfThere(Reader in, int tag) {
            size = 0;
            if (!in.nextIs(tag)) {
                return;
            }
            in.open(tag);
            do {
                names[size].readFrom(in);
                size++;
            } while (in.remaining() > 0 && size < names.length);
            in.close();
        }

        void writeIfThere(ByteRow out, int tag) {
            if (size == 0) {
                return;
            }
            int content = out.append(tag);
            for (int k = 0; k < size; k++) {
                names[k].writeTo(out);
            }
            out.insertLength(content);
        }
    }

    /** An extension's frame; the octets are held here only if the number is none of those with a meaning. */
    private static final class Extension {
        private int number;
        private boolean critical;
        private final int[] octets;
        private int size;

        Extension() {
            number = 0;
            critical = false;
            octets = new int[MOST_OCTETS];
            size = 0;
        }

        boolean isKnown() {
            return number == BASIC || number == USAGE || number == BOUNDS;
        }

        void readOctets(Reader in) {
            size = in.remaining();
            if (size > octets.length) {
                in.refuse();
                size = 0;
            }
            for (int k = 0; k < size; k++) {
                octets[k] = in.readByte();
            }
        }

        void writeOctets(ByteRow out) {
            for (int k = 0; k < size; k++) {
                out.append(octets[k]);
            }
        }
    }

    private static final class Certificate {
        private int serial;
        private final Name issuer;
        private int from;
        private int to;
        private final Name subject;
        private int modulus;
        private int exponent;
        private int signature;
        private int bodyHash;

        /** In the order in which they were read, since they are written again in it. */
        private final Extension[] extensions;

        private int extensionCount;
        private boolean authority;
        private int reach;
        private int usage;
        private final NameList permitted;
        private final NameList excluded;

        Certificate() {
            issuer = new Name();
            subject = new Name();
            extensions = new Extension[MOST_EXTENSIONS];
            for (int k = 0; k < extensions.length; k++) {
                extensions[k] = new Extension();
            }
            permitted = new NameList();
            excluded = new NameList();
            forgetExtensions();
        }

        private void forgetExtensions() {
            extensionCount = 0;
            authority = false;
            reach = NONE;
            usage = NONE;
            permitted.size = 0;
            excluded.size = 0;
        }

        int fieldNumbered(int k) {
            switch (k) {
                case 0: return serial;
                case 1: return from;
                case 2: return to;
                case 3: return modulus;
                case 4: return exponent;
                case 5: return signature;
                case 6: return bodyHash;
                case 7: return authority ? 1 : 0;
                case 8: return reach;
                case 9: return usage;
                case 10: return extensionCount;
                case 11: return permitted.size;
                case 12: return excluded.size;
                case 13: return issuer.size;
                case 14: return subject.size;
                default: return NONE;
            }
        }

        boolean isSelfIssued() {
            return issuer.isSameAs(subject);
        }

        boolean isSignedBy(int keyModulus, int keyExponent) {
            if (keyModulus < 2 || signature >= keyModulus) {
                return false;
            }
            long power = 1;
            long square = signature;
            for (int left = keyExponent; left > 0; left >>= 1) {
                if ((left & 1) == 1) {
                    power = power * square % keyModulus;
                }
                square = square * square % keyModulus;
            }
            return power == bodyHash % keyModulus;
        }

        boolean hasUnknownCritical() {
            for (int k = 0; k < extensionCount; k++) {
                if (extensions[k].critical && !extensions[k].isKnown()) {
                    return true;
                }
            }
            return false;
        }

        /** Whether the bounds of this certificate let a later one have the name. */
        boolean allows(Name name) {
            return (permitted.size == 0 || permitted.covers(name)) && !excluded.covers(name);
        }

        int brokenAsHolder(int rest) {
            if (!authority) {
                return NO_AUTHORITY;
            }
            if (!isSelfIssued() && rest <= 0) {
                return NO_REST;
            }
            return usage != NONE && (usage & SIGNING_USAGE) == 0 ? MAY_NOT_SIGN : HOLDS;
        }

        int brokenAsLast(int asked) {
            return usage != NONE && (usage & asked) != asked ? USAGE_MISSING : HOLDS;
        }

        int restBehind(int rest) {
            int left = isSelfIssued() ? rest : rest - 1;
            return reach != NONE && reach < left ? reach : left;
        }

        boolean readFrom(Reader in) {
            forgetExtensions();
            in.start();
            in.open(TAG_SEQUENCE);
            int bodyFrom = in.at;
            in.open(TAG_SEQUENCE);
            readHead(in);
            if (in.nextIs(TAG_FOURTH)) {
                in.open(TAG_FOURTH);
                in.open(TAG_SEQUENCE);
                do {
                    readExtension(in, extensions[extensionCount]);
                    extensionCount++;
                } while (in.remaining() > 0 && extensionCount < extensions.length);
                in.close();
                in.close();
            }
            in.close();
            bodyHash = in.hashSince(bodyFrom);
            signature = in.readInteger(0, MOST_NUMBER);
            in.close();
            return in.isAtEndOfRow();
        }

        private void readHead(Reader in) {
            serial = in.readInteger(0, MOST_NUMBER);
            issuer.readFrom(in);
            in.open(TAG_SEQUENCE);
            from = in.readInteger(0, MOST_NUMBER);
            to = in.readInteger(0, MOST_NUMBER);
            in.close();
            subject.readFrom(in);
            in.open(TAG_SEQUENCE);
            modulus = in.readInteger(2, MOST_NUMBER);
            exponent = in.readInteger(1, MOST_EXPONENT);
            in.close();
        }

        private void readExtension(Reader in, Extension extension) {
            in.open(TAG_SEQUENCE);
            int number = in.readInteger(0, 255);
            if (hasExtension(number)) {
                in.refuse();
            }
            extension.number = number;
            extension.critical = in.readTrueIfThere();
            in.open(TAG_OCTETS);
            switch (number) {
                case BASIC: readBasic(in); break;
                case USAGE: readUsage(in); break;
                case BOUNDS: readBounds(in); break;
                default: extension.readOctets(in); break;
            }
            in.close();
            in.close();
        }

        private boolean hasExtension(int number) {
            for (int k = 0; k < extensionCount; k++) {
                if (extensions[k].number == number) {
                    return true;
                }
            }
            return false;
        }

        private void readBasic(Reader in) {
            in.open(TAG_SEQUENCE);
            authority = in.readTrueIfThere();
            if (authority && in.remaining() > 0) {
                reach = in.readInteger(0, MOST_NUMBER);
            }
            in.close();
        }

        private void readUsage(Reader in) {
            in.open(TAG_BITS);
            int unused = in.readByte();
            int bits = 0;
            if (in.remaining() > 0) {
                bits = in.readByte();
                if (bits == 0 || unused != zerosBehind(bits)) {
                    in.refuse();
                }
            } else if (unused != 0) {
                in.refuse();
            }
            usage = mirrored(bits);
            in.close();
        }

        private void readBounds(Reader in) {
            in.open(TAG_SEQUENCE);
            permitted.readIfThere(in, TAG_FIRST);
            excluded.readIfThere(in, TAG_SECOND);
            if (permitted.size == 0 && excluded.size == 0) {
                in.refuse();
            }
            in.close();
        }

        void writeTo(ByteRow out) {
            int whole = out.append(TAG_SEQUENCE);
            int body = out.append(TAG_SEQUENCE);
            writeHead(out);
            if (extensionCount > 0) {
                int fourth = out.append(TAG_FOURTH);
                int list = out.append(TAG_SEQUENCE);
                for (int k = 0; k < extensionCount; k++) {
                    writeExtension(out, extensions[k]);
                }
                out.insertLength(list);
                out.insertLength(fourth);
            }
            out.insertLength(body);
            out.appendInteger(signature);
            out.insertLength(whole);
        }

        private void writeHead(ByteRow out) {
            out.appendInteger(serial);
            issuer.writeTo(out);
            int times = out.append(TAG_SEQUENCE);
            out.appendInteger(from);
            out.appendInteger(to);
            out.insertLength(times);
            subject.writeTo(out);
            int key = out.append(TAG_SEQUENCE);
            out.appendInteger(modulus);
            out.appendInteger(exponent);
            out.insertLength(key);
        }

        private void writeExtension(ByteRow out, Extension extension) {
            int whole = out.append(TAG_SEQUENCE);
            out.appendInteger(extension.number);
            if (extension.critical) {
                out.appendTrue();
            }
            int octets = out.append(TAG_OCTETS);
            switch (extension.number) {
                case BASIC: writeBasic(out); break;
                case USAGE: writeUsage(out); break;
                case BOUNDS: writeBounds(out); break;
                default: extension.writeOctets(out); break;
            }
            out.insertLength(octets);
            out.insertLength(whole);
        }

        private void writeBasic(ByteRow out) {
            int content = out.append(TAG_SEQUENCE);
            if (authority) {
                out.appendTrue();
            }
            if (reach != NONE) {
                out.appendInteger(reach);
            }
            out.insertLength(content);
        }

        private void writeUsage(ByteRow out) {
            int content = out.append(TAG_BITS);
            int bits = mirrored(usage);
            if (bits == 0) {
                out.append(0);
            } else {
                out.append(zerosBehind(bits));
                out.append(bits);
            }
            out.insertLength(content);
        }

        private void writeBounds(ByteRow out) {
            int content = out.append(TAG_SEQUENCE);
            permitted.writeIfThere(out, TAG_FIRST);
            excluded.writeIfThere(out, TAG_SECOND);
            out.insertLength(content);
        }

        /** The number k of a set is the bit 7 - k of its byte, but 2^k in a sum: one is the other read backwards. */
        private static int mirrored(int bits) {
            int result = 0;
            for (int k = 0; k < 8; k++) {
                result = result << 1 | (bits >>> k) & 1;
            }
            return result;
        }

        private static int zerosBehind(int bits) {
            int zeros = 0;
            while (zeros < 8 && (bits >>> zeros & 1) == 0) {
                zeros++;
            }
            return zeros;
        }
    }
}
