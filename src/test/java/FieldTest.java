/** Promises 10 and 11: field and within. */
public final class FieldTest {
    private static final Due DUE = new Due();

    public static void main(String[] args) {
        plainFields();
        greatestFields();
        allExtensions();
        absentThings();
        hashOfTheBody();
        usageSums();
        nothingIsLeftOfAnEarlierOne();
        wrongArguments();
        withinNames();
        withinWrongArguments();
        DUE.end();
    }

    private static void fields(String what, CertificatePath x, int i, long... want) {
        for (int k = 0; k < want.length; k++) {
            DUE.answer(what + ": field(" + i + ", " + k + ")", x.field(i, k), want[k]);
        }
    }

    private static void plainFields() {
        CertificatePath x = new CertificatePath();
        Draft d = new Draft().serial(11).names("a.b", "c.d.e").times(22, 33).key(44, 55).signature(66);
        int i = d.keptBy(x);
        fields("plain", x, i, 11, 22, 33, 44, 55, 66, d.bodyHash(), 0, -1, -1, 0, 0, 0, 2, 3);
        Draft e = new Draft().serial(0).names("", "a.b.c.d").times(0, 0).key(2, 1).signature(0);
        int j = e.keptBy(x);
        fields("least", x, j, 0, 0, 0, 2, 1, 0, e.bodyHash(), 0, -1, -1, 0, 0, 0, 0, 4);
        fields("plain yet", x, i, 11, 22, 33, 44, 55, 66, d.bodyHash(), 0, -1, -1, 0, 0, 0, 2, 3);
    }

    private static void greatestFields() {
        CertificatePath x = new CertificatePath();
        int m = Integer.MAX_VALUE;
        Draft d = new Draft().serial(m).names("a.b.c.d", "").times(m, m).key(m, 1000).signature(m)
            .with(Encoding.authority(m));
        fields("greatest", x, d.keptBy(x), m, m, m, m, 1000, m, d.bodyHash(), 1, m, -1, 1, 0, 0, 4, 0);
        long[] values = {0, 1, 127, 128, 255, 256, 32767, 32768, 65535, 65536, 8388607, 8388608, 16777216};
        for (long value : values) {
            CertificatePath y = new CertificatePath();
            new Draft().serial(value).times(value, value).signature(value).keptBy(y);
            DUE.answer("serial " + value, y.field(0, 0), value);
            DUE.answer("FROM " + value, y.field(0, 1), value);
            DUE.answer("TO " + value, y.field(0, 2), value);
            DUE.answer("signature " + value, y.field(0, 5), value);
        }
    }

    private static void allExtensions() {
        CertificatePath x = new CertificatePath();
        Draft d = new Draft().with(Encoding.extension(9, true, Encoding.bytes(1, 2)), Encoding.authority(0),
            Encoding.bounds(new String[] {"a", "b", ""}, new String[] {"c", "d"}), Encoding.usage(0, 5, 7));
        fields("all", x, d.keptBy(x), 1, 5, 100, 2, 1, 0, d.bodyHash(), 1, 0, 1 + 32 + 128, 4, 3, 2, 1, 1);
    }

    private static void absentThings() {
        CertificatePath x = new CertificatePath();
        int i = new Draft().with(Encoding.extension(1, false, Encoding.sequence())).keptBy(x);
        DUE.answer("no authority", x.field(i, 7), 0);
        DUE.answer("no reach without authority", x.field(i, 8), -1);
        DUE.answer("one extension", x.field(i, 10), 1);
        i = new Draft().with(Encoding.authority()).keptBy(x);
        DUE.answer("authority", x.field(i, 7), 1);
        DUE.answer("authority without reach", x.field(i, 8), -1);
        i = new Draft().with(Encoding.authority(7), Encoding.usage()).keptBy(x);
        DUE.answer("reach", x.field(i, 8), 7);
        DUE.answer("empty usage", x.field(i, 9), 0);
        DUE.answer("two extensions", x.field(i, 10), 2);
        i = new Draft().with(Encoding.permitted("a", "b")).keptBy(x);
        DUE.answer("permitted alone", x.field(i, 11), 2);
        DUE.answer("none excluded", x.field(i, 12), 0);
        i = new Draft().with(Encoding.excluded("a", "b", "c")).keptBy(x);
        DUE.answer("none permitted", x.field(i, 11), 0);
        DUE.answer("excluded alone", x.field(i, 12), 3);
        DUE.answer("no usage beside bounds", x.field(i, 9), -1);
    }

    private static void hashOfTheBody() {
        CertificatePath x = new CertificatePath();
        Draft d = new Draft();
        int i = d.keptBy(x);
        int size = d.body().length;
        DUE.answer("hash of a short body", x.field(i, 6), x.hash(2, 2 + size));
        Draft longer = new Draft().with(
            Encoding.extension(7, false, Encoding.repeated(9, 20)), Encoding.extension(8, false, Encoding.repeated(9, 20)),
            Encoding.extension(6, false, Encoding.repeated(9, 20)), Encoding.extension(5, false, Encoding.repeated(9, 18)));
        int j = longer.keptBy(x);
        int longSize = longer.body().length;
        DUE.answer("the long body's length byte", x.byteAt(4), 129);
        DUE.answer("hash of a long body", x.field(j, 6), x.hash(3, 3 + longSize));
        DUE.answer("hash of a short body yet", x.field(i, 6), d.bodyHash());
        int k = new Draft().signature(12345).keptBy(x);
        DUE.answer("the signature is not in the hash", x.field(k, 6), d.bodyHash());
    }

    private static void usageSums() {
        for (int k = 0; k < 8; k++) {
            CertificatePath x = new CertificatePath();
            new Draft().with(Encoding.usage(k)).keptBy(x);
            DUE.answer("usage " + k, x.field(0, 9), 1L << k);
        }
        CertificatePath x = new CertificatePath();
        new Draft().with(Encoding.usage(0, 1, 2, 3, 4, 5, 6, 7)).keptBy(x);
        DUE.answer("all usages", x.field(0, 9), 255);
    }

    private static void nothingIsLeftOfAnEarlierOne() {
        CertificatePath x = new CertificatePath();
        Draft rich = new Draft().names("a.b.c", "a.b.c").with(Encoding.authority(3), Encoding.usage(1),
            Encoding.bounds(new String[] {"a"}, new String[] {"b"}));
        rich.keptBy(x);
        x.reset();
        Draft poor = new Draft().names("", "");
        poor.keptBy(x);
        fields("after reset", x, 0, 1, 5, 100, 2, 1, 0, poor.bodyHash(), 0, -1, -1, 0, 0, 0, 0, 0);
        // A wrong one, read to its very end, leaves nothing either.
        rich.signature = Encoding.element(4);
        Encoding.load(x, rich.bytes());
        DUE.answer("a wrong one", x.accept(), -1);
        Draft basic = new Draft().with(Encoding.extension(1, false, Encoding.sequence()));
        basic.keptBy(x);
        fields("after a wrong one", x, 1, 1, 5, 100, 2, 1, 0, basic.bodyHash(), 0, -1, -1, 1, 0, 0, 1, 1);
    }

    private static void wrongArguments() {
        CertificatePath x = new CertificatePath();
        new Draft().keptBy(x);
        int[] noCertificate = {-1, 1, 7, 8, 9, Integer.MIN_VALUE, Integer.MAX_VALUE};
        for (int i : noCertificate) {
            for (int k = -1; k <= 15; k++) {
                DUE.answer("field(" + i + ", " + k + ")", x.field(i, k), -1);
            }
        }
        int[] noField = {-1, 15, 16, Integer.MIN_VALUE, Integer.MAX_VALUE};
        for (int k : noField) {
            DUE.answer("field(0, " + k + ")", x.field(0, k), -1);
        }
    }

    private static void withinNames() {
        String[] names = {"", "a", "b", "a.b", "a.b.c", "a.b.c.d", "a.c", "b.a", "aa", "ab", "abcdefgh", "abcdefgh.a",
            "bbcdefgh", "abcdefgi", "a.b.c.e"};
        for (String p : names) {
            for (String q : names) {
                CertificatePath x = new CertificatePath();
                int i = new Draft().names("x.y", p).keptBy(x);
                int j = new Draft().names(q, "x.z").keptBy(x);
                boolean want = q.isEmpty() || p.equals(q) || p.startsWith(q + ".");
                DUE.answer(p + " within " + q, x.within(i, false, j, true), want);
                boolean back = p.isEmpty() || p.equals(q) || q.startsWith(p + ".");
                DUE.answer(q + " within " + p, x.within(j, true, i, false), back);
                DUE.answer("x.y within " + q, x.within(i, true, j, true), q.isEmpty());
                DUE.answer("x.z within " + p, x.within(j, false, i, false), p.isEmpty());
                DUE.answer("x.y within x.z", x.within(i, true, j, false), false);
                DUE.answer("x.y within x.y", x.within(i, true, i, true), true);
            }
        }
    }

    private static void withinWrongArguments() {
        CertificatePath x = new CertificatePath();
        new Draft().names("", "").keptBy(x);
        DUE.answer("within itself", x.within(0, false, 0, false), true);
        int[] noCertificate = {-1, 1, 8, Integer.MIN_VALUE, Integer.MAX_VALUE};
        for (int i : noCertificate) {
            DUE.answer("within(" + i + ", 0)", x.within(i, false, 0, false), false);
            DUE.answer("within(0, " + i + ")", x.within(0, true, i, true), false);
            DUE.answer("within(" + i + ", " + i + ")", x.within(i, true, i, true), false);
        }
    }
}
