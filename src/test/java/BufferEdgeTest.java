import java.util.function.Supplier;

/**
 * Promises 1 to 7, and the terms that they speak of, at their boundaries.
 * Each test stands under the words of the document that it holds the program to.
 */
public final class BufferEdgeTest {
    private static final Due DUE = new Due();
    private static final int LEAST = Integer.MIN_VALUE;
    private static final int MOST = Integer.MAX_VALUE;

    public static void main(String[] args) {
        newBufferIsEmpty();
        newObjectHasNoCertificates();
        newObjectHasAnEmptyPath();
        bufferHoldsFromNoneTo160();
        bufferHoldsEveryByte();
        bufferIsCountedFrom0();
        feedTakesTheLowestBytes();
        feedTakesTheHighestOfThemFirst();
        feedRefusesOtherNumbersThan1To4();
        feedRefusesWhatHasNoRoom();
        feedFillsTheLastRoom();
        setNeedsAByteK();
        setNeedsB0To255();
        setChangesOneByteAlone();
        trimKeepsTheFirstOnes();
        trimNeeds0ToLength();
        lengthIsTheNumberOfBytes();
        byteAtAnswersNoneIfThereIsNone();
        hashOfNoneIs0();
        hashNeedsFromNotBelow0();
        hashNeedsFromNotAboveTo();
        hashNeedsToNotAboveLength();
        hashWrapsAtTheDivisor();
        hashOfAFullBuffer();
        the512thCallIsAnswered();
        DUE.end();
    }

    private static CertificatePath holding(int... bytes) {
        CertificatePath x = new CertificatePath();
        Encoding.load(x, bytes);
        return x;
    }

    /** Byte k is 7 * k + 3, without what is above 255: neighbours differ. */
    private static int[] row(int size) {
        int[] bytes = new int[size];
        for (int k = 0; k < size; k++) {
            bytes[k] = 7 * k + 3 & 255;
        }
        return bytes;
    }

    private static Supplier<CertificatePath> someWith(int[] buffer) {
        return () -> Sight.state(3, new int[] {2, 1}, buffer);
    }

    /** Promise 1: "The buffer empty". */
    private static void newBufferIsEmpty() {
        DUE.answer("new: length()", new CertificatePath().length(), 0);
        DUE.answer("new: byteAt(0)", new CertificatePath().byteAt(0), -1);
        DUE.answer("new: accept()", new CertificatePath().accept(), -1);
        DUE.answer("new: trim(0)", new CertificatePath().trim(0), true);
        DUE.answer("new: trim(1)", new CertificatePath().trim(1), false);
    }

    /** Promise 1: "no certificates". */
    private static void newObjectHasNoCertificates() {
        DUE.answer("new: count()", new CertificatePath().count(), 0);
        DUE.answer("new: link(0)", new CertificatePath().link(0), false);
        DUE.answer("new: recode(0)", new CertificatePath().recode(0), -1);
        DUE.answer("new: within(0, 0)", new CertificatePath().within(0, false, 0, false), false);
        for (int k = 0; k <= 14; k++) {
            DUE.answer("new: field(0, " + k + ")", new CertificatePath().field(0, k), -1);
        }
    }

    /** Promise 1: "the path empty". */
    private static void newObjectHasAnEmptyPath() {
        DUE.answer("new: links()", new CertificatePath().links(), 0);
        DUE.answer("new: unlink()", new CertificatePath().unlink(), false);
        CertificatePath x = new CertificatePath();
        new Draft().keptBy(x);
        DUE.answer("new, one kept: check(0, 50, 0)", x.check(0, 50, 0), -1);
    }

    /** Terms: "The BUFFER holds 0 to 160 bytes". */
    private static void bufferHoldsFromNoneTo160() {
        CertificatePath x = new CertificatePath();
        for (int size = 0; size < 160; size++) {
            DUE.answer("length() before byte " + size, x.length(), size);
            DUE.answer("feed byte " + size, x.feed(size, 1), true);
        }
        DUE.answer("length() when full", x.length(), 160);
        DUE.answer("feed a 161st", x.feed(0, 1), false);
        DUE.answer("length() when full yet", x.length(), 160);
        DUE.answer("the last byte", x.byteAt(159), 159);
        DUE.answer("trim(0) when full", x.trim(0), true);
        DUE.answer("length() when emptied", x.length(), 0);
        DUE.answer("feed when emptied", x.feed(5, 4), true);
        DUE.bytes("emptied and fed", x, 0, 0, 0, 5);
    }

    /** Terms: "bytes (0 .. 255)". */
    private static void bufferHoldsEveryByte() {
        for (int b = 0; b < 256; b++) {
            DUE.bytes("fed " + b, holding(b), b);
            CertificatePath x = holding(1);
            DUE.answer("set(0, " + b + ")", x.set(0, b), true);
            DUE.bytes("set to " + b, x, b);
        }
    }

    /** Terms: "counted from 0". */
    private static void bufferIsCountedFrom0() {
        CertificatePath x = holding(11, 12);
        DUE.answer("byteAt(0)", x.byteAt(0), 11);
        DUE.answer("byteAt(1)", x.byteAt(1), 12);
        x.set(0, 13);
        DUE.bytes("set(0, 13)", x, 13, 12);
        DUE.answer("hash(0, 1)", x.hash(0, 1), 14);
    }

    /** Promise 2: "Appends the n lowest bytes of w to the buffer". */
    private static void feedTakesTheLowestBytes() {
        int[] words = {0, 1, 255, 256, 65535, 65536, 16777215, 16777216, MOST, LEAST, -1, -256, -257, 0x80000001};
        for (int w : words) {
            for (int n = 1; n <= 4; n++) {
                CertificatePath x = holding(77);
                DUE.answer("feed(" + w + ", " + n + ")", x.feed(w, n), true);
                DUE.answer("length() behind feed(" + w + ", " + n + ")", x.length(), 1 + n);
                DUE.answer("what stood there", x.byteAt(0), 77);
                for (int k = 0; k < n; k++) {
                    long below = Math.floorMod((long) w, 1L << 8 * (n - k)) >> 8 * (n - k - 1);
                    DUE.answer("byte " + k + " of feed(" + w + ", " + n + ")", x.byteAt(1 + k), below);
                }
            }
        }
    }

    /** Promise 2: "the highest of them first". */
    private static void feedTakesTheHighestOfThemFirst() {
        int w = 0x81828384;
        int[][] due = {{0x84}, {0x83, 0x84}, {0x82, 0x83, 0x84}, {0x81, 0x82, 0x83, 0x84}};
        for (int n = 1; n <= 4; n++) {
            CertificatePath x = new CertificatePath();
            x.feed(w, n);
            DUE.bytes("feed(w, " + n + ")", x, due[n - 1]);
        }
    }

    /** Promise 2: "false, changing nothing, if n is not 1 .. 4". */
    private static void feedRefusesOtherNumbersThan1To4() {
        int[] wrong = {0, -1, 5, 6, 8, 256, 257, LEAST, LEAST + 1, MOST};
        for (int n : wrong) {
            DUE.answer("feed(1, " + n + ")", holding(7).feed(1, n), false);
            DUE.answer("new: feed(1, " + n + ")", new CertificatePath().feed(1, n), false);
            Sight.unchanged(DUE, "feed(1, " + n + ")", Sight::some, x -> x.feed(1, n));
        }
        DUE.answer("feed(1, 1)", holding(7).feed(1, 1), true);
        DUE.answer("feed(1, 4)", holding(7).feed(1, 4), true);
    }

    /** Promise 2: "false, changing nothing, if .. there is no room for them". */
    private static void feedRefusesWhatHasNoRoom() {
        for (int room = 0; room < 4; room++) {
            for (int n = room + 1; n <= 4; n++) {
                String call = "feed(-1, " + n + ") into room for " + room;
                int count = n;
                int[] bytes = row(160 - room);
                DUE.answer(call, holding(bytes).feed(-1, n), false);
                Sight.unchanged(DUE, call, someWith(bytes), x -> x.feed(-1, count));
            }
        }
    }

    /** Promise 2: room for just so many bytes is room enough. */
    private static void feedFillsTheLastRoom() {
        for (int n = 1; n <= 4; n++) {
            CertificatePath x = holding(row(160 - n));
            DUE.answer("feed the last " + n, x.feed(0x01020304, n), true);
            DUE.answer("length() behind the last " + n, x.length(), 160);
            for (int k = 1; k <= n; k++) {
                DUE.answer("the last but " + (k - 1) + " of " + n, x.byteAt(160 - k), 5 - k);
            }
            DUE.answer("the one before them", x.byteAt(159 - n), 7 * (159 - n) + 3 & 255);
        }
    }

    /** Promise 3: "false, changing nothing, if there is no byte k". */
    private static void setNeedsAByteK() {
        DUE.answer("set(0, 1) of none", new CertificatePath().set(0, 1), false);
        int[] none = {-1, 4, 5, 159, 160, LEAST, MOST};
        for (int k : none) {
            DUE.answer("set(" + k + ", 1) of four", holding(9, 0, 255, 48).set(k, 1), false);
            Sight.unchanged(DUE, "set(" + k + ", 1)", Sight::some, x -> x.set(k, 1));
        }
        DUE.answer("set(3, 1) of four", holding(9, 0, 255, 48).set(3, 1), true);
        DUE.answer("set(159, 1) of 160", holding(row(160)).set(159, 1), true);
        DUE.answer("set(160, 1) of 160", holding(row(160)).set(160, 1), false);
        DUE.answer("set(159, 1) of 159", holding(row(159)).set(159, 1), false);
        CertificatePath x = holding(1, 2, 3);
        x.trim(2);
        DUE.answer("set(2, 9) of a byte that was trimmed", x.set(2, 9), false);
        x.feed(4, 1);
        DUE.bytes("fed where it was trimmed", x, 1, 2, 4);
    }

    /** Promise 3: "false, changing nothing, if .. b is not 0 .. 255". */
    private static void setNeedsB0To255() {
        int[] wrong = {-1, 256, 257, -255, -256, 65536, LEAST, MOST};
        for (int b : wrong) {
            DUE.answer("set(0, " + b + ")", holding(9).set(0, b), false);
            Sight.unchanged(DUE, "set(1, " + b + ")", Sight::some, x -> x.set(1, b));
        }
        CertificatePath x = holding(9, 9);
        DUE.answer("set(0, 0)", x.set(0, 0), true);
        DUE.answer("set(1, 255)", x.set(1, 255), true);
        DUE.bytes("set(0, 0), set(1, 255)", x, 0, 255);
    }

    /** Promise 3: "Byte k of the buffer becomes b", and no other one. */
    private static void setChangesOneByteAlone() {
        for (int k = 0; k < 4; k++) {
            int[] want = {9, 0, 255, 48};
            want[k] = 100;
            CertificatePath x = holding(9, 0, 255, 48);
            DUE.answer("set(" + k + ", 100)", x.set(k, 100), true);
            DUE.bytes("behind set(" + k + ", 100)", x, want);
        }
    }

    /** Promise 4: "Only the first n bytes of the buffer stay". */
    private static void trimKeepsTheFirstOnes() {
        int[] sizes = {0, 1, 79, 158, 159, 160};
        for (int n : sizes) {
            CertificatePath x = holding(row(160));
            DUE.answer("trim(" + n + ") of 160", x.trim(n), true);
            DUE.bytes("behind trim(" + n + ")", x, row(n));
            DUE.answer("byteAt(" + n + ") behind trim(" + n + ")", x.byteAt(n), -1);
        }
    }

    /** Promise 4: "false, changing nothing, if n is not 0 .. length()". */
    private static void trimNeeds0ToLength() {
        int[] wrong = {-1, 5, 6, 160, 161, LEAST, MOST};
        for (int n : wrong) {
            DUE.answer("trim(" + n + ") of four", holding(9, 0, 255, 48).trim(n), false);
            Sight.unchanged(DUE, "trim(" + n + ")", Sight::some, x -> x.trim(n));
        }
        DUE.answer("trim(4) of four", holding(9, 0, 255, 48).trim(4), true);
        Sight.unchanged(DUE, "trim(4) of four", Sight::some, x -> x.trim(4));
        DUE.answer("trim(161) of 160", holding(row(160)).trim(161), false);
        DUE.answer("trim(0) of none", new CertificatePath().trim(0), true);
        DUE.answer("trim(-1) of none", new CertificatePath().trim(-1), false);
    }

    /** Promise 5: "The number of bytes in the buffer". */
    private static void lengthIsTheNumberOfBytes() {
        CertificatePath x = new CertificatePath();
        DUE.answer("length() of none", x.length(), 0);
        for (int n = 1; n <= 4; n++) {
            x.feed(0, n);
            DUE.answer("length() behind feed(0, " + n + ")", x.length(), n * (n + 1) / 2);
        }
        x.set(9, 1);
        DUE.answer("length() behind set", x.length(), 10);
        x.trim(3);
        DUE.answer("length() behind trim(3)", x.length(), 3);
        DUE.answer("length() when full", holding(row(160)).length(), 160);
    }

    /** Promise 6: "Byte k of the buffer; NONE if there is none". */
    private static void byteAtAnswersNoneIfThereIsNone() {
        int[] never = {-1, -2, 160, 161, LEAST, MOST};
        for (int k : never) {
            DUE.answer("byteAt(" + k + ") of none", new CertificatePath().byteAt(k), -1);
            DUE.answer("byteAt(" + k + ") of 160", holding(row(160)).byteAt(k), -1);
        }
        CertificatePath x = holding(row(160));
        for (int k = 0; k < 160; k++) {
            DUE.answer("byteAt(" + k + ") of 160", x.byteAt(k), 7 * k + 3 & 255);
        }
        DUE.answer("byteAt(3) of four", holding(row(4)).byteAt(3), 24);
        DUE.answer("byteAt(4) of four", holding(row(4)).byteAt(4), -1);
        DUE.answer("a byte 255 is not NONE", holding(255).byteAt(0), 255);
    }

    /** Promise 7: "0 of none". */
    private static void hashOfNoneIs0() {
        DUE.answer("new: hash(0, 0)", new CertificatePath().hash(0, 0), 0);
        int[] places = {0, 1, 80, 159, 160};
        for (int k : places) {
            DUE.answer("hash(" + k + ", " + k + ") of 160", holding(row(160)).hash(k, k), 0);
        }
    }

    /** Promise 7: "NONE if not 0 <= from". */
    private static void hashNeedsFromNotBelow0() {
        int[] wrong = {-1, -2, LEAST};
        for (int from : wrong) {
            DUE.answer("hash(" + from + ", 2)", holding(1, 2, 3).hash(from, 2), -1);
            DUE.answer("hash(" + from + ", 0)", holding(1, 2, 3).hash(from, 0), -1);
            DUE.answer("hash(" + from + ", " + from + ")", holding(1, 2, 3).hash(from, from), -1);
        }
        DUE.answer("hash(0, 1)", holding(1, 2, 3).hash(0, 1), 2);
    }

    /** Promise 7: "NONE if not .. from <= to". */
    private static void hashNeedsFromNotAboveTo() {
        DUE.answer("hash(1, 0)", holding(1, 2, 3).hash(1, 0), -1);
        DUE.answer("hash(3, 2)", holding(1, 2, 3).hash(3, 2), -1);
        DUE.answer("hash(0, -1)", holding(1, 2, 3).hash(0, -1), -1);
        DUE.answer("hash(0, least)", holding(1, 2, 3).hash(0, LEAST), -1);
        DUE.answer("hash(most, 3)", holding(1, 2, 3).hash(MOST, 3), -1);
        DUE.answer("hash(most, least)", holding(1, 2, 3).hash(MOST, LEAST), -1);
        DUE.answer("hash(2, 2)", holding(1, 2, 3).hash(2, 2), 0);
        DUE.answer("hash(1, 2)", holding(1, 2, 3).hash(1, 2), 3);
    }

    /** Promise 7: "NONE if not .. to <= length()". */
    private static void hashNeedsToNotAboveLength() {
        int[] wrong = {4, 5, 160, 161, MOST};
        for (int to : wrong) {
            DUE.answer("hash(0, " + to + ") of three", holding(1, 2, 3).hash(0, to), -1);
            DUE.answer("hash(" + to + ", " + to + ") of three", holding(1, 2, 3).hash(to, to), -1);
        }
        DUE.answer("hash(2, 3) of three", holding(1, 2, 3).hash(2, 3), 4);
        DUE.answer("hash(3, 3) of three", holding(1, 2, 3).hash(3, 3), 0);
        DUE.answer("hash(0, 161) of 160", holding(row(160)).hash(0, 161), -1);
        CertificatePath x = holding(1, 2, 3);
        x.trim(1);
        DUE.answer("hash(0, 2) of one that is left", x.hash(0, 2), -1);
    }

    /** Terms, HASH: "the rest of 263 * h + b + 1 when divided by 1000003". */
    private static void hashWrapsAtTheDivisor() {
        // 263 * (263 * 14 + 120) = 263 * 3802 = 999926, and 999926 + 77 = 1000003
        DUE.answer("one below the divisor", holding(13, 119, 75).hash(0, 3), 1000002);
        DUE.answer("the divisor", holding(13, 119, 76).hash(0, 3), 0);
        DUE.answer("one above the divisor", holding(13, 119, 77).hash(0, 3), 1);
        // 263 * 1000002 + 1 = 263 * 1000003 - 262
        DUE.answer("behind the greatest rest, 0", holding(13, 119, 75, 0).hash(0, 4), 1000003 - 262);
        DUE.answer("behind the greatest rest, 255", holding(13, 119, 75, 255).hash(0, 4), 1000003 - 7);
        DUE.answer("behind the rest 0", holding(13, 119, 76, 255).hash(0, 4), 256);
        DUE.answer("the byte 0 counts", holding(0, 0).hash(0, 2), 264);
    }

    /** Promise 7, over all 160 bytes there can be. */
    private static void hashOfAFullBuffer() {
        int[][] rows = {row(160), Encoding.repeated(255, 160), Encoding.repeated(0, 160), Encoding.repeated(128, 160)};
        for (int[] bytes : rows) {
            DUE.answer("hash(0, 160)", holding(bytes).hash(0, 160), Encoding.hash(bytes));
            DUE.answer("hash(159, 160)", holding(bytes).hash(159, 160), bytes[159] + 1);
            int[] rest = java.util.Arrays.copyOfRange(bytes, 1, 160);
            DUE.answer("hash(1, 160)", holding(bytes).hash(1, 160), Encoding.hash(rest));
        }
    }

    /** "An object is used for at most 512 calls after it has been made": the last of them is answered as the first. */
    private static void the512thCallIsAnswered() {
        CertificatePath x = new CertificatePath();
        for (int call = 1; call <= 255; call++) {
            DUE.answer("feed as call " + (2 * call - 1), x.feed(call, 1), true);
            DUE.answer("trim as call " + (2 * call), x.trim(0), true);
        }
        DUE.answer("feed as call 511", x.feed(0x0a0b0c, 3), true);
        DUE.answer("hash as call 512", x.hash(0, 3), 263 * (263 * 11 + 12) + 13);
        CertificatePath y = new CertificatePath();
        int calls = 0;
        int[] bytes = new Draft().bytes();
        Encoding.load(y, bytes);
        calls += 1 + (bytes.length + 3) / 4;
        while (calls < 510) {
            y.accept();
            calls++;
            if (calls % 9 == 0) {
                y.reset();
                calls++;
            }
        }
        y.reset();
        DUE.answer("accept as the last call", y.accept(), 0);
    }
}
