/** Promise 12: recode. */
public final class RecodeTest {
    private static final Due DUE = new Due();

    public static void main(String[] args) {
        plainOnes();
        numbers();
        names();
        extensions();
        usages();
        sizes();
        severalOnes();
        wrongArguments();
        DUE.end();
    }

    private static void same(String what, Draft d) {
        int[] bytes = d.bytes();
        CertificatePath x = new CertificatePath();
        int i = d.keptBy(x);
        x.trim(0);
        DUE.answer(what + ": recode", x.recode(i), bytes.length);
        DUE.bytes(what, x, bytes);
        int hash = x.hash(0, bytes.length);
        Encoding.load(x, Encoding.repeated(170, 160));
        DUE.answer(what + ": recode over a full buffer", x.recode(i), bytes.length);
        DUE.bytes(what + " over a full buffer", x, bytes);
        DUE.answer(what + ": accepted again", x.accept(), 1);
        x.trim(0);
        DUE.answer(what + ": recoded again", x.recode(1), bytes.length);
        DUE.answer(what + ": hash of what was recoded again", x.hash(0, bytes.length), hash);
    }

    private static void plainOnes() {
        same("plain", new Draft());
        same("empty names", new Draft().names("", ""));
    }

    private static void numbers() {
        long[] values = {0, 1, 127, 128, 255, 256, 32767, 32768, 65535, 65536, 8388607, 8388608, 16777215, 16777216,
            2147483647};
        for (long v : values) {
            Draft d = new Draft().serial(v).times(v, v).signature(v).with(Encoding.authority((int) v));
            same("number " + v, v < 2 ? d : d.key(v, Math.min(v, 1000)));
        }
        for (int number = 0; number < 256; number++) {
            if (number < 1 || number > 3) {
                same("extension " + number, new Draft().with(Encoding.extension(number, true, Encoding.bytes(number))));
            }
        }
    }

    private static void names() {
        String[] names = {"", "a", "z", "ab", "abcdefg", "abcdefgh", "zzzzzzzz", "a.b", "a.bc.def.ghij", "zzzzzzzz.a.zzzzzzzz.a"};
        for (String name : names) {
            same("issuer " + name, new Draft().names(name, "q"));
            same("subject " + name, new Draft().names("q", name));
            same("permitted " + name, new Draft().with(Encoding.permitted("a", name)));
            same("excluded " + name, new Draft().with(Encoding.excluded(name, "b")));
        }
    }

    private static void extensions() {
        int[] basic = Encoding.extension(1, true, Encoding.sequence());
        int[] authority = Encoding.authority();
        int[] reach = Encoding.authority(300);
        int[] usage = Encoding.extension(2, true, Encoding.bits(1, 5));
        int[] bounds = Encoding.bounds(new String[] {"a", "", "b.c"}, new String[] {"", "d", "a"});
        int[] other = Encoding.extension(128, true, Encoding.bytes(0, 255, 48, 129));
        same("basic", new Draft().with(basic));
        same("authority", new Draft().with(authority));
        same("reach", new Draft().with(reach));
        same("usage", new Draft().with(usage));
        same("bounds", new Draft().with(bounds));
        same("critical bounds",
            new Draft().with(Encoding.extension(3, true, Encoding.sequence(Encoding.names(161, "")))));
        same("other", new Draft().with(other));
        same("four in order", new Draft().with(reach, usage, bounds, other));
        same("four in another order", new Draft().with(other, bounds, usage, basic));
        same("others in falling order", new Draft().with(Encoding.extension(9, false, Encoding.bytes(1)),
            Encoding.extension(8, false, Encoding.bytes(2)), authority, Encoding.extension(0, false, Encoding.bytes())));
    }

    private static void usages() {
        for (int set = 0; set < 256; set++) {
            int size = Integer.bitCount(set);
            int[] numbers = new int[size];
            int at = 0;
            for (int k = 0; k < 8; k++) {
                if ((set >> k & 1) == 1) {
                    numbers[at++] = k;
                }
            }
            same("usage " + set, new Draft().with(Encoding.usage(numbers)));
        }
    }

    /** All sizes up to the greatest, and so both forms of length for the whole and for the body. */
    private static void sizes() {
        int greatest = 0;
        for (int a = 0; a <= 20; a++) {
            for (int b = 0; b <= 20; b += 4) {
                for (int n = 0; n <= 2; n++) {
                    Draft d = new Draft().names("abcdefgh", "abcdefgh").with(Encoding.extension(4, false, Encoding.repeated(7, a)));
                    for (int k = 0; k < n; k++) {
                        d.with(Encoding.extension(10 + k, false, Encoding.repeated(8, b)));
                    }
                    d.with(Encoding.extension(20, true, Encoding.repeated(9, 17)));
                    if (d.bytes().length <= 160) {
                        same("sizes " + a + ", " + b + ", " + n, d);
                        greatest = Math.max(greatest, d.bytes().length);
                    }
                }
            }
        }
        DUE.answer("the greatest size that was tried", greatest, 160);
    }

    private static void severalOnes() {
        CertificatePath x = new CertificatePath();
        Draft[] drafts = new Draft[8];
        for (int i = 0; i < 8; i++) {
            drafts[i] = new Draft().serial(i).names("a", "b").with(Encoding.extension(4, false, Encoding.repeated(i, i)));
            drafts[i].keptBy(x);
        }
        for (int i = 7; i >= 0; i--) {
            int[] bytes = drafts[i].bytes();
            DUE.answer("recode " + i, x.recode(i), bytes.length);
            DUE.answer("hash of several " + i, x.hash(0, bytes.length), Encoding.hash(bytes));
        }
        DUE.answer("count stays", x.count(), 8);
    }

    private static void wrongArguments() {
        CertificatePath x = new CertificatePath();
        new Draft().keptBy(x);
        Encoding.load(x, Encoding.bytes(1, 2, 3));
        int[] noCertificate = {-1, 1, 8, 9, Integer.MIN_VALUE, Integer.MAX_VALUE};
        for (int i : noCertificate) {
            DUE.answer("recode(" + i + ")", x.recode(i), -1);
            DUE.bytes("recode(" + i + ") changes nothing", x, 1, 2, 3);
        }
    }
}
