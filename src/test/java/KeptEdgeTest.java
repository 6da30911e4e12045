import java.util.function.Supplier;

/**
 * Promises 8 to 12 at their boundaries: accept, count, field, within and recode.
 * Each test stands under the words of the document that it holds the program to.
 */
public final class KeptEdgeTest {
    private static final Due DUE = new Due();
    private static final int LEAST = Integer.MIN_VALUE;
    private static final int MOST = Integer.MAX_VALUE;
    private static final int[] NEVER_KEPT = {-1, -2, 8, 9, LEAST, MOST};

    public static void main(String[] args) {
        theyAreNumberedFrom0();
        theNinthIsFull();
        noneComesBeforeFull();
        theSameOneMayBeKeptAgain();
        acceptLeavesTheBuffer();
        refusedAcceptChangesNothing();
        theWholeBufferIsTaken();
        countIsHowManyAreKept();
        fieldNeedsACertificate();
        fieldNeedsK0To14();
        fieldsAtTheirLeast();
        fieldsAtTheirGreatest();
        hashOfTheBodyIsThatOfTheWholeElement();
        authorityIs1Or0();
        noReachIsNone();
        noUsageIsNone();
        numbersOfExtensions();
        numbersOfNames();
        numbersOfLabels();
        withinNeedsBoth();
        eachNameIsWithinItself();
        withinTheFirstLabelsInOrder();
        withinLooksAtTheNameAskedFor();
        recodeMakesTheSameBytes();
        recodeReplacesTheBuffer();
        recodeOfNoneChangesNothing();
        recodeLeavesTheRest();
        DUE.end();
    }

    private static CertificatePath holding(Draft... drafts) {
        CertificatePath x = new CertificatePath();
        for (Draft d : drafts) {
            d.keptBy(x);
        }
        return x;
    }

    private static Supplier<CertificatePath> fullWith(int[] buffer) {
        return () -> Sight.state(8, new int[] {7, 0}, buffer);
    }

    private static Supplier<CertificatePath> someWith(int[] buffer) {
        return () -> Sight.state(3, new int[] {2, 1}, buffer);
    }

    /** Terms: "numbered 0, 1, .. as they are accepted". */
    private static void theyAreNumberedFrom0() {
        CertificatePath x = new CertificatePath();
        for (int i = 0; i < 8; i++) {
            Encoding.load(x, new Draft().serial(100 + i).bytes());
            DUE.answer("accept() of number " + i, x.accept(), i);
        }
        for (int i = 0; i < 8; i++) {
            DUE.answer("serial of " + i, x.field(i, 0), 100 + i);
        }
    }

    /** Terms: "At most eight certificates are kept"; promise 8: "FULL if eight are kept". */
    private static void theNinthIsFull() {
        CertificatePath x = Sight.full();
        Encoding.load(x, new Draft().serial(99).bytes());
        DUE.answer("a ninth", x.accept(), CertificatePath.FULL);
        DUE.answer("a ninth again", x.accept(), -2);
        DUE.answer("count() behind it", x.count(), 8);
        DUE.answer("the ninth is not kept", x.field(8, 0), -1);
        x.reset();
        DUE.answer("there is room again", x.accept(), 0);
    }

    /** Promise 8: "NONE if it is no certificate; else FULL if eight are kept". */
    private static void noneComesBeforeFull() {
        CertificatePath x = Sight.full();
        DUE.answer("no certificate, eight kept", x.accept(), CertificatePath.NONE);
        x.trim(0);
        DUE.answer("an empty buffer, eight kept", x.accept(), -1);
        int[] bytes = new Draft().bytes();
        Encoding.load(x, bytes);
        DUE.answer("a certificate, eight kept", x.accept(), -2);
        x.trim(bytes.length - 1);
        DUE.answer("one byte less, eight kept", x.accept(), -1);
        Encoding.load(x, Encoding.join(bytes, Encoding.bytes(0)));
        DUE.answer("one byte more, eight kept", x.accept(), -1);
    }

    /** Promise 8: "the same one may be kept again". */
    private static void theSameOneMayBeKeptAgain() {
        CertificatePath x = new CertificatePath();
        Encoding.load(x, Sight.numbered(5).bytes());
        for (int i = 0; i < 8; i++) {
            DUE.answer("the same one as number " + i, x.accept(), i);
            DUE.answer("count() of the same ones", x.count(), i + 1);
        }
        DUE.answer("the same one as a ninth", x.accept(), -2);
    }

    /** Promise 8: "The buffer stays." */
    private static void acceptLeavesTheBuffer() {
        int[] right = Sight.numbered(3).bytes();
        int[] wrong = Encoding.join(right, Encoding.bytes(7));
        CertificatePath x = new CertificatePath();
        Encoding.load(x, right);
        x.accept();
        DUE.bytes("behind a number", x, right);
        CertificatePath y = new CertificatePath();
        Encoding.load(y, wrong);
        y.accept();
        DUE.bytes("behind NONE", y, wrong);
        CertificatePath z = Sight.state(8, new int[] {}, right);
        DUE.answer("FULL", z.accept(), -2);
        DUE.bytes("behind FULL", z, right);
    }

    /** A refused accept() keeps nothing, and nothing of what it read gets into those that are kept. */
    private static void refusedAcceptChangesNothing() {
        int[] right = new Draft().serial(77).names("q", "r").with(Encoding.authority(9), Encoding.usage(6),
            Encoding.bounds(new String[] {"s"}, new String[] {"t", "u"}), Encoding.extension(9, true, Encoding.repeated(1, 5))).bytes();
        int[] wrong = right.clone();
        wrong[wrong.length - 3] = 4;
        Sight.unchanged(DUE, "accept() that answers NONE", someWith(wrong), CertificatePath::accept);
        Sight.unchanged(DUE, "accept() that answers NONE, eight kept", fullWith(wrong), CertificatePath::accept);
        Sight.unchanged(DUE, "accept() that answers FULL", fullWith(right), CertificatePath::accept);
        Sight.unchanged(DUE, "accept() of an empty buffer", someWith(new int[] {}), CertificatePath::accept);
        // What is accepted behind a refused one has nothing of it.
        CertificatePath x = new CertificatePath();
        Encoding.load(x, wrong);
        DUE.answer("a wrong one", x.accept(), -1);
        Draft plain = new Draft();
        plain.keptBy(x);
        DUE.text("a plain one behind a wrong one", Sight.of(x), Sight.of(holding(plain)));
    }

    /** Promise 8: "Keeps the whole buffer as a certificate". */
    private static void theWholeBufferIsTaken() {
        int[] bytes = new Draft().bytes();
        for (int size = 0; size <= bytes.length + 4; size++) {
            CertificatePath x = new CertificatePath();
            Encoding.load(x, java.util.Arrays.copyOf(bytes, size));
            DUE.answer("accept() of " + size + " bytes", x.accept(), size == bytes.length ? 0 : -1);
        }
        CertificatePath x = new CertificatePath();
        Encoding.load(x, Encoding.join(bytes, bytes));
        DUE.answer("two certificates in a row", x.accept(), -1);
        x.trim(bytes.length);
        DUE.answer("the first of them", x.accept(), 0);
    }

    /** Promise 9: "How many certificates are kept." */
    private static void countIsHowManyAreKept() {
        CertificatePath x = new CertificatePath();
        DUE.answer("count() of none", x.count(), 0);
        Encoding.load(x, new Draft().bytes());
        for (int i = 1; i <= 8; i++) {
            x.accept();
            DUE.answer("count() of " + i, x.count(), i);
        }
        x.accept();
        DUE.answer("count() behind FULL", x.count(), 8);
        x.trim(3);
        x.accept();
        DUE.answer("count() behind NONE", x.count(), 8);
        x.reset();
        DUE.answer("count() behind reset()", x.count(), 0);
        x.accept();
        DUE.answer("count() behind NONE and none kept", x.count(), 0);
    }

    /** Promise 10: "NONE if there is no certificate i". */
    private static void fieldNeedsACertificate() {
        for (int k = 0; k <= 14; k++) {
            for (int i : NEVER_KEPT) {
                DUE.answer("field(" + i + ", " + k + ") of eight", Sight.full().field(i, k), -1);
                DUE.answer("field(" + i + ", " + k + ") of none", new CertificatePath().field(i, k), -1);
            }
            DUE.answer("field(3, " + k + ") of three", Sight.some().field(3, k), -1);
        }
        DUE.answer("field(2, 0) of three", Sight.some().field(2, 0), 1);
        DUE.answer("field(7, 0) of eight", Sight.full().field(7, 0), 1);
        CertificatePath x = Sight.full();
        x.reset();
        DUE.answer("field(0, 0) behind reset()", x.field(0, 0), -1);
    }

    /** Promise 10: "NONE if .. k is not 0 .. 14". */
    private static void fieldNeedsK0To14() {
        int[] wrong = {-1, 15, 16, 255, 256, LEAST, MOST};
        CertificatePath x = Sight.full();
        for (int k : wrong) {
            DUE.answer("field(0, " + k + ")", x.field(0, k), -1);
            DUE.answer("field(7, " + k + ")", x.field(7, k), -1);
        }
        DUE.answer("field(0, 0)", x.field(0, 0), 1);
        DUE.answer("field(0, 14)", x.field(0, 14), 1);
    }

    private static void fields(String what, Draft d, long... want) {
        CertificatePath x = holding(d);
        for (int k = 0; k < want.length; k++) {
            DUE.answer(what + ": field(0, " + k + ")", x.field(0, k), want[k]);
        }
    }

    /** Promise 10, each k: the least that is allowed. */
    private static void fieldsAtTheirLeast() {
        Draft d = new Draft().serial(0).names("", "").times(0, 0).key(2, 1).signature(0);
        fields("the least of all", d, 0, 0, 0, 2, 1, 0, d.bodyHash(), 0, -1, -1, 0, 0, 0, 0, 0);
    }

    /** Promise 10, each k: the greatest that is allowed. */
    private static void fieldsAtTheirGreatest() {
        Draft d = new Draft().serial(MOST).names("a.b.c.d", "e.f.g.h").times(MOST, MOST).key(MOST, 1000).signature(MOST)
            .with(Encoding.authority(MOST), Encoding.usage(0, 1, 2, 3, 4, 5, 6, 7),
                Encoding.bounds(new String[] {"", "", ""}, new String[] {"", "", ""}), Encoding.extension(255, false, Encoding.bytes()));
        fields("the greatest of all", d, MOST, MOST, MOST, MOST, 1000, MOST, d.bodyHash(), 1, MOST, 255, 4, 3, 3, 4, 4);
    }

    /** Promise 10, k = 6; terms: "the hash of its body (the whole element, with tag and length)". */
    private static void hashOfTheBodyIsThatOfTheWholeElement() {
        int[] sizes = {0, 20, 60, 70, 72, 74, 76, 78};
        for (int octets : sizes) {
            Draft d = new Draft();
            for (int k = 0; k < 4; k++) {
                d.with(Encoding.extension(9 + k, false, Encoding.repeated(k, Math.max(0, Math.min(20, octets - 20 * k)))));
            }
            CertificatePath x = holding(d);
            int from = d.bytes()[1] == 129 ? 3 : 2;
            int to = from + d.body().length;
            DUE.answer("hash of a body with " + octets + " octets", x.field(0, 6), x.hash(from, to));
            DUE.answer("hash of it, reckoned", x.field(0, 6), Encoding.hash(d.body()));
        }
        // A body whose hash is the greatest rest, and one whose hash is 0.
        fields("the greatest hash", hashing(1000002), 1, 5, 100, 2, 1, 0, 1000002);
        fields("the least hash", hashing(0), 1, 5, 100, 2, 1, 0, 0);
    }

    /** Octets are tried until the hash of the body is the one that is wished for. */
    private static Draft hashing(int hash) {
        for (int n = 0; n < 1 << 24; n++) {
            Draft d = new Draft().with(Encoding.extension(9, false, Encoding.bytes(n & 255, n >> 8 & 255, n >> 16)));
            if (d.bodyHash() == hash) {
                return d;
            }
        }
        throw new IllegalStateException("no body with the hash " + hash);
    }

    /** Promise 10: "7 whether its subject is an AUTHORITY (1 or 0)". */
    private static void authorityIs1Or0() {
        DUE.answer("no BASIC", holding(new Draft()).field(0, 7), 0);
        DUE.answer("an empty BASIC", holding(new Draft().with(Encoding.extension(1, true, Encoding.sequence()))).field(0, 7), 0);
        DUE.answer("TRUE", holding(new Draft().with(Encoding.authority())).field(0, 7), 1);
        DUE.answer("TRUE and the reach 0", holding(new Draft().with(Encoding.authority(0))).field(0, 7), 1);
    }

    /** Promise 10: "NONE if .. there is no REACH (8)". */
    private static void noReachIsNone() {
        DUE.answer("no BASIC", holding(new Draft()).field(0, 8), -1);
        DUE.answer("an empty BASIC", holding(new Draft().with(Encoding.extension(1, true, Encoding.sequence()))).field(0, 8), -1);
        DUE.answer("TRUE", holding(new Draft().with(Encoding.authority())).field(0, 8), -1);
        DUE.answer("the reach 0", holding(new Draft().with(Encoding.authority(0))).field(0, 8), 0);
        DUE.answer("the greatest reach", holding(new Draft().with(Encoding.authority(MOST))).field(0, 8), MOST);
    }

    /** Promise 10: "NONE if .. no USAGE (9; the empty set is 0)". */
    private static void noUsageIsNone() {
        DUE.answer("no USAGE", holding(new Draft()).field(0, 9), -1);
        DUE.answer("no USAGE, but others", holding(new Draft().with(Encoding.authority(3), Encoding.permitted("a"))).field(0, 9), -1);
        DUE.answer("the empty set", holding(new Draft().with(Encoding.usage())).field(0, 9), 0);
        DUE.answer("0 alone", holding(new Draft().with(Encoding.usage(0))).field(0, 9), 1);
        DUE.answer("7 alone", holding(new Draft().with(Encoding.usage(7))).field(0, 9), 128);
        DUE.answer("all", holding(new Draft().with(Encoding.usage(0, 1, 2, 3, 4, 5, 6, 7))).field(0, 9), 255);
    }

    /** Promise 10: "10 the number of its extensions". */
    private static void numbersOfExtensions() {
        Draft d = new Draft();
        DUE.answer("no extensions", holding(d).field(0, 10), 0);
        int[][] more = {Encoding.extension(9, true, Encoding.bytes()), Encoding.authority(), Encoding.usage(), Encoding.permitted("")};
        for (int count = 1; count <= 4; count++) {
            d.with(more[count - 1]);
            DUE.answer(count + " extensions", holding(d).field(0, 10), count);
        }
    }

    /** Promise 10: "11 the number of names permitted, 12 of names excluded", "11 and 12 are 0 if there are none". */
    private static void numbersOfNames() {
        String[] names = {"a", "", "b.c"};
        DUE.answer("no BOUNDS, permitted", holding(new Draft()).field(0, 11), 0);
        DUE.answer("no BOUNDS, excluded", holding(new Draft()).field(0, 12), 0);
        for (int count = 1; count <= 3; count++) {
            String[] some = java.util.Arrays.copyOf(names, count);
            CertificatePath x = holding(new Draft().with(Encoding.permitted(some)), new Draft().with(Encoding.excluded(some)),
                new Draft().with(Encoding.bounds(some, new String[] {"q"})), new Draft().with(Encoding.bounds(new String[] {"q"}, some)));
            int[][] want = {{count, 0}, {0, count}, {count, 1}, {1, count}};
            for (int i = 0; i < 4; i++) {
                DUE.answer(count + " names, permitted by " + i, x.field(i, 11), want[i][0]);
                DUE.answer(count + " names, excluded by " + i, x.field(i, 12), want[i][1]);
            }
        }
    }

    /** Promise 10: "13 of labels of the issuer, 14 of labels of the subject". */
    private static void numbersOfLabels() {
        String[] names = {"", "a", "a.b", "a.b.c", "a.b.c.d"};
        for (int issuer = 0; issuer <= 4; issuer++) {
            for (int subject = 0; subject <= 4; subject++) {
                CertificatePath x = holding(new Draft().names(names[issuer], names[subject]));
                DUE.answer("labels of the issuer", x.field(0, 13), issuer);
                DUE.answer("labels of the subject", x.field(0, 14), subject);
            }
        }
    }

    /** Promise 11: "false if there is no certificate i or j". */
    private static void withinNeedsBoth() {
        for (int turn = 0; turn < 4; turn++) {
            boolean p = turn % 2 == 1;
            boolean q = turn / 2 == 1;
            CertificatePath x = Sight.full();
            for (int i : NEVER_KEPT) {
                DUE.answer("within(" + i + ", 0)", x.within(i, p, 0, q), false);
                DUE.answer("within(7, " + i + ")", x.within(7, p, i, q), false);
                DUE.answer("within(" + i + ", " + i + ")", x.within(i, p, i, q), false);
            }
            DUE.answer("within(7, 0)", x.within(7, p, 0, q), true);
            DUE.answer("within(3, 2) of three", Sight.some().within(3, p, 2, q), false);
            DUE.answer("within(2, 3) of three", Sight.some().within(2, p, 3, q), false);
            DUE.answer("within(2, 2) of three", Sight.some().within(2, p, 2, q), true);
            DUE.answer("within(0, 0) of none", new CertificatePath().within(0, p, 0, q), false);
        }
    }

    /** Terms: "each name is within itself". */
    private static void eachNameIsWithinItself() {
        String[] names = {"", "a", "z", "abcdefgh", "a.a", "a.b.c.d", "zzzzzzzz.zzzzzzzz.zzzzzzzz.zzzzzzzz"};
        for (String name : names) {
            CertificatePath x = holding(new Draft().names(name, name));
            DUE.answer("subject " + name, x.within(0, false, 0, false), true);
            DUE.answer("issuer " + name, x.within(0, true, 0, true), true);
            DUE.answer("subject and issuer " + name, x.within(0, false, 0, true), true);
        }
    }

    private static void within(String one, String other, boolean want) {
        CertificatePath x = holding(new Draft().names("", one), new Draft().names("", other));
        DUE.answer("\"" + one + "\" within \"" + other + "\"", x.within(0, false, 1, false), want);
    }

    /** Terms: "A name is WITHIN another one if the labels of that one are its first labels, in order". */
    private static void withinTheFirstLabelsInOrder() {
        within("", "", true);
        within("a", "", true);
        within("a.b.c.d", "", true);
        within("", "a", false);
        within("a.b", "a", true);
        within("a", "a.b", false);
        within("a.b.c.d", "a.b.c", true);
        within("a.b.c", "a.b.c.d", false);
        within("a.b.c.d", "a.b.c.e", false);
        within("a.b.c.d", "e.b.c.d", false);
        within("a.b.c.d", "a.e.c.d", false);
        within("a.b", "b", false);
        within("a.b", "b.a", false);
        within("b.a", "a", false);
        within("ab", "a", false);
        within("a", "ab", false);
        within("abcdefgh", "abcdefg", false);
        within("abcdefg", "abcdefgh", false);
        within("abcdefgh", "abcdefgi", false);
        within("abcdefgh", "bbcdefgh", false);
        within("ab.c", "a.bc", false);
    }

    /** Promise 11: "the subject of certificate i (its issuer, if issuerI) .. the subject of .. j (its issuer, if issuerJ)". */
    private static void withinLooksAtTheNameAskedFor() {
        CertificatePath x = holding(new Draft().names("a", "a.b.c"), new Draft().names("a.b", "a.b.c.d"));
        DUE.answer("a.b.c within a.b.c.d", x.within(0, false, 1, false), false);
        DUE.answer("a.b.c within a.b", x.within(0, false, 1, true), true);
        DUE.answer("a within a.b.c.d", x.within(0, true, 1, false), false);
        DUE.answer("a within a.b", x.within(0, true, 1, true), false);
        DUE.answer("a.b.c.d within a.b.c", x.within(1, false, 0, false), true);
        DUE.answer("a.b.c.d within a", x.within(1, false, 0, true), true);
        DUE.answer("a.b within a.b.c", x.within(1, true, 0, false), false);
        DUE.answer("a.b within a", x.within(1, true, 0, true), true);
        DUE.answer("a.b.c within a", x.within(0, false, 0, true), true);
        DUE.answer("a within a.b.c", x.within(0, true, 0, false), false);
    }

    private static Draft least() {
        return new Draft().serial(0).names("", "").times(0, 0).key(2, 1).signature(0);
    }

    /** 160 bytes. */
    private static Draft greatest() {
        String name = "abcdefgh.zyxwvuts.abcdefgh.zyxwvuts";
        return new Draft().serial(MOST).names(name, name).times(MOST, MOST).key(MOST, 1000).signature(MOST)
            .with(Encoding.extension(9, true, Encoding.repeated(0, 18)));
    }

    /** Promise 12: "the bytes of certificate i, made anew from what was read (the same ones ..); answers how many". */
    private static void recodeMakesTheSameBytes() {
        Draft[] drafts = {least(), greatest()};
        int[] sizes = {30, 160};
        for (int n = 0; n < drafts.length; n++) {
            int[] bytes = drafts[n].bytes();
            CertificatePath x = holding(drafts[n]);
            x.trim(0);
            DUE.answer("recode(0) of " + sizes[n], x.recode(0), sizes[n]);
            DUE.bytes("recode(0) of " + sizes[n], x, bytes);
            DUE.answer("accept() of what was made", x.accept(), 1);
        }
        CertificatePath x = Sight.full();
        for (int i = 0; i < 8; i++) {
            int[] bytes = Sight.numbered(i).bytes();
            DUE.answer("recode(" + i + ")", x.recode(i), bytes.length);
            DUE.answer("hash of recode(" + i + ")", x.hash(0, bytes.length), Encoding.hash(bytes));
        }
    }

    /** Promise 12: "The buffer becomes the bytes": nothing of what stood there is left. */
    private static void recodeReplacesTheBuffer() {
        int[] fillings = {0, 1, 29, 30, 31, 159, 160};
        for (int filling : fillings) {
            CertificatePath x = holding(least(), greatest());
            Encoding.load(x, Encoding.repeated(255, filling));
            DUE.answer("the least one over " + filling, x.recode(0), 30);
            DUE.bytes("the least one over " + filling, x, least().bytes());
            DUE.answer("byteAt(30) behind it", x.byteAt(30), -1);
            Encoding.load(x, Encoding.repeated(255, filling));
            DUE.answer("the greatest one over " + filling, x.recode(1), 160);
            DUE.bytes("the greatest one over " + filling, x, greatest().bytes());
        }
    }

    /** Promise 12: "NONE, changing nothing, if there is none". */
    private static void recodeOfNoneChangesNothing() {
        for (int i : NEVER_KEPT) {
            DUE.answer("recode(" + i + ") of eight", Sight.full().recode(i), -1);
            DUE.answer("recode(" + i + ") of none", new CertificatePath().recode(i), -1);
            Sight.unchanged(DUE, "recode(" + i + ")", Sight::full, x -> x.recode(i));
        }
        DUE.answer("recode(3) of three", Sight.some().recode(3), -1);
        Sight.unchanged(DUE, "recode(3) of three", Sight::some, x -> x.recode(3));
        Sight.unchanged(DUE, "recode(3) over a full buffer", someWith(Encoding.repeated(6, 160)), x -> x.recode(3));
        Sight.unchanged(DUE, "recode(0) behind reset()",
            () -> {
                CertificatePath x = Sight.some();
                x.reset();
                return x;
            },
            x -> x.recode(0));
    }

    /** Promise 12 speaks of the buffer alone: certificates and path stay as they are. */
    private static void recodeLeavesTheRest() {
        int[] bytes = Sight.numbered(2).bytes();
        Sight.unchanged(DUE, "recode(2) over its own bytes", someWith(bytes), x -> x.recode(2));
    }
}
