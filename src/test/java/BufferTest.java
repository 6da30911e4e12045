/** Promises 1 to 7: a new object and its buffer. */
public final class BufferTest {
    private static final Due DUE = new Due();

    public static void main(String[] args) {
        newObject();
        feedAppendsTheLowestBytesTheHighestFirst();
        feedRefusesWrongNumbersOfBytes();
        feedRefusesWhatHasNoRoom();
        setPutsOneByte();
        trimKeepsTheFirstBytes();
        trimmedBytesAreGone();
        byteAtAnswersNoneOutside();
        hashOfRows();
        objectsShareNothing();
        DUE.end();
    }

    private static void newObject() {
        CertificatePath x = new CertificatePath();
        DUE.answer("new: length", x.length(), 0);
        DUE.answer("new: count", x.count(), 0);
        DUE.answer("new: links", x.links(), 0);
        DUE.answer("new: byteAt(0)", x.byteAt(0), -1);
        DUE.answer("new: hash(0, 0)", x.hash(0, 0), 0);
        DUE.answer("new: unlink", x.unlink(), false);
        DUE.answer("new: accept", x.accept(), -1);
        DUE.answer("new: field(0, 0)", x.field(0, 0), -1);
        DUE.answer("new: recode(0)", x.recode(0), -1);
        DUE.answer("new: link(0)", x.link(0), false);
        DUE.answer("new: check(0, 0, 0)", x.check(0, 0, 0), -1);
        DUE.answer("new: within", x.within(0, false, 0, false), false);
        DUE.answer("NONE", CertificatePath.NONE, -1);
        DUE.answer("FULL", CertificatePath.FULL, -2);
    }

    private static void feedAppendsTheLowestBytesTheHighestFirst() {
        CertificatePath x = new CertificatePath();
        DUE.answer("feed one", x.feed(0x11223344, 1), true);
        DUE.bytes("after one", x, 0x44);
        DUE.answer("feed two", x.feed(0x11223344, 2), true);
        DUE.bytes("after two", x, 0x44, 0x33, 0x44);
        DUE.answer("feed three", x.feed(0x11223344, 3), true);
        DUE.bytes("after three", x, 0x44, 0x33, 0x44, 0x22, 0x33, 0x44);
        DUE.answer("feed four", x.feed(0xfedcba98, 4), true);
        DUE.bytes("after four", x, 0x44, 0x33, 0x44, 0x22, 0x33, 0x44, 0xfe, 0xdc, 0xba, 0x98);
        x = new CertificatePath();
        DUE.answer("feed(-1, 3)", x.feed(-1, 3), true);
        DUE.bytes("after -1", x, 255, 255, 255);
    }

    private static void feedRefusesWrongNumbersOfBytes() {
        CertificatePath x = new CertificatePath();
        x.feed(7, 1);
        int[] wrong = {0, 5, -1, 8, Integer.MIN_VALUE, Integer.MAX_VALUE};
        for (int n : wrong) {
            DUE.answer("feed(1, " + n + ")", x.feed(1, n), false);
            DUE.bytes("after feed(1, " + n + ")", x, 7);
        }
    }

    private static void feedRefusesWhatHasNoRoom() {
        CertificatePath x = new CertificatePath();
        for (int k = 0; k < 39; k++) {
            DUE.answer("feed the " + k + "th four", x.feed(k, 4), true);
        }
        DUE.answer("feed one of the last four", x.feed(77, 1), true);
        DUE.answer("four into three", x.feed(1, 4), false);
        DUE.answer("length stays", x.length(), 157);
        DUE.answer("byte 157 is none", x.byteAt(157), -1);
        DUE.answer("three into three", x.feed(0x010203, 3), true);
        DUE.answer("length is 160", x.length(), 160);
        DUE.answer("last byte", x.byteAt(159), 3);
        DUE.answer("byte 160", x.byteAt(160), -1);
        for (int n = 1; n <= 4; n++) {
            DUE.answer("feed(9, " + n + ") into a full buffer", x.feed(9, n), false);
        }
        DUE.answer("length is 160 yet", x.length(), 160);
        DUE.answer("set(160, 1)", x.set(160, 1), false);
        DUE.answer("set(159, 1)", x.set(159, 1), true);
        DUE.answer("trim(161)", x.trim(161), false);
        DUE.answer("trim(160)", x.trim(160), true);
        DUE.answer("hash(0, 161)", x.hash(0, 161), -1);
    }

    private static void setPutsOneByte() {
        CertificatePath x = new CertificatePath();
        DUE.answer("set(0, 1) on nothing", x.set(0, 1), false);
        x.feed(0x0a0b0c, 3);
        DUE.answer("set(0, 255)", x.set(0, 255), true);
        DUE.answer("set(2, 0)", x.set(2, 0), true);
        DUE.bytes("after set", x, 255, 0x0b, 0);
        int[] noByte = {-1, 3, 160, Integer.MIN_VALUE, Integer.MAX_VALUE};
        for (int k : noByte) {
            DUE.answer("set(" + k + ", 1)", x.set(k, 1), false);
        }
        int[] wrong = {-1, 256, Integer.MIN_VALUE, Integer.MAX_VALUE};
        for (int b : wrong) {
            DUE.answer("set(1, " + b + ")", x.set(1, b), false);
        }
        DUE.bytes("after wrong sets", x, 255, 0x0b, 0);
    }

    private static void trimKeepsTheFirstBytes() {
        CertificatePath x = new CertificatePath();
        DUE.answer("trim(0) of nothing", x.trim(0), true);
        DUE.answer("trim(1) of nothing", x.trim(1), false);
        x.feed(0x01020304, 4);
        DUE.answer("trim(5)", x.trim(5), false);
        DUE.answer("trim(-1)", x.trim(-1), false);
        DUE.answer("trim(least)", x.trim(Integer.MIN_VALUE), false);
        DUE.answer("trim(most)", x.trim(Integer.MAX_VALUE), false);
        DUE.bytes("after wrong trims", x, 1, 2, 3, 4);
        DUE.answer("trim(4)", x.trim(4), true);
        DUE.bytes("after trim(4)", x, 1, 2, 3, 4);
        DUE.answer("trim(2)", x.trim(2), true);
        DUE.bytes("after trim(2)", x, 1, 2);
        DUE.answer("trim(0)", x.trim(0), true);
        DUE.bytes("after trim(0)", x);
    }

    private static void trimmedBytesAreGone() {
        CertificatePath x = new CertificatePath();
        x.feed(0x01020304, 4);
        x.trim(1);
        DUE.answer("byteAt(1) when trimmed", x.byteAt(1), -1);
        DUE.answer("set(1, 9) when trimmed", x.set(1, 9), false);
        DUE.answer("hash(0, 2) when trimmed", x.hash(0, 2), -1);
        x.feed(9, 1);
        DUE.bytes("fed again", x, 1, 9);
    }

    private static void byteAtAnswersNoneOutside() {
        CertificatePath x = new CertificatePath();
        x.feed(0xff00, 2);
        DUE.answer("byteAt(0)", x.byteAt(0), 255);
        DUE.answer("byteAt(1)", x.byteAt(1), 0);
        int[] noByte = {-1, 2, 159, 160, Integer.MIN_VALUE, Integer.MAX_VALUE};
        for (int k : noByte) {
            DUE.answer("byteAt(" + k + ")", x.byteAt(k), -1);
        }
    }

    private static void hashOfRows() {
        CertificatePath x = new CertificatePath();
        x.feed(0x00ff30, 3);
        DUE.answer("hash(0, 0)", x.hash(0, 0), 0);
        DUE.answer("hash(3, 3)", x.hash(3, 3), 0);
        DUE.answer("hash(0, 1)", x.hash(0, 1), 1);
        DUE.answer("hash(1, 2)", x.hash(1, 2), 256);
        DUE.answer("hash(0, 2)", x.hash(0, 2), 263 + 256);
        DUE.answer("hash(0, 3)", x.hash(0, 3), 263 * 519 + 49);
        DUE.answer("hash(1, 3)", x.hash(1, 3), 263 * 256 + 49);
        DUE.answer("hash(2, 1)", x.hash(2, 1), -1);
        DUE.answer("hash(-1, 1)", x.hash(-1, 1), -1);
        DUE.answer("hash(0, 4)", x.hash(0, 4), -1);
        DUE.answer("hash(4, 4)", x.hash(4, 4), -1);
        DUE.answer("hash(least, most)", x.hash(Integer.MIN_VALUE, Integer.MAX_VALUE), -1);
        DUE.answer("hash(most, least)", x.hash(Integer.MAX_VALUE, Integer.MIN_VALUE), -1);
        x.feed(-1, 1);
        // 263 * 136546 + 256 = 35911854 = 35 * 1000003 + 911749
        DUE.answer("hash(0, 4) beyond the divisor", x.hash(0, 4), 911749);
        for (int k = 0; k < 39; k++) {
            x.feed(-1, 4);
        }
        long h = 0;
        for (int k = 0; k < 160; k++) {
            h = (263 * h + x.byteAt(k) + 1) % 1000003;
        }
        DUE.answer("hash of a full buffer", x.hash(0, 160), h);
    }

    private static void objectsShareNothing() {
        CertificatePath x = new CertificatePath();
        CertificatePath y = new CertificatePath();
        x.feed(1, 1);
        DUE.answer("the other one's length", y.length(), 0);
        y.feed(2, 1);
        DUE.bytes("the one", x, 1);
        DUE.bytes("the other", y, 2);
    }
}
