/** Promises 8, 10 and 12: certificates with one byte changed, left out or put in, as the reference takes them. */
public final class SpoiledTest {
    private static final Due DUE = new Due();
    private static final int[] LIKELY = {0, 1, 2, 3, 4, 19, 48, 97, 127, 128, 129, 130, 160, 161, 163, 255};

    public static void main(String[] args) {
        spoil("plain", new Draft());
        spoil("rich", new Draft().names("a", "a.b").key(70000, 300).with(Encoding.authority(200), Encoding.usage(0, 5),
            Encoding.bounds(new String[] {"a", ""}, new String[] {"b.c"})));
        spoil("long", new Draft().serial(128).signature(65536).with(
            Encoding.extension(128, true, Encoding.repeated(2, 20)), Encoding.extension(4, false, Encoding.repeated(48, 20)),
            Encoding.extension(1, true, Encoding.sequence()), Encoding.extension(0, true, Encoding.repeated(129, 20))));
        spoil("longer than 127", new Draft().names("abcdefgh.b", "abcdefgh.c").with(
            Encoding.extension(5, true, Encoding.repeated(2, 20)), Encoding.extension(4, false, Encoding.repeated(48, 18)),
            Encoding.bounds(new String[] {"abc", "d"}, new String[] {""})));
        Draft full = new Draft().names("abcdefgh.b", "abcdefgh.c").signature(2147483647).with(
            Encoding.extension(5, true, Encoding.repeated(2, 20)), Encoding.extension(4, false, Encoding.repeated(48, 20)),
            Encoding.extension(3, true, Encoding.sequence(Encoding.names(160, "abcdefgh"), Encoding.names(161, "", "ghij"))));
        DUE.answer("bytes of a full buffer", full.bytes().length, 160);
        spoil("a full buffer", full);
        DUE.end();
    }

    private static void spoil(String what, Draft d) {
        int[] bytes = d.bytes();
        same(what, bytes, true);
        for (int k = 0; k < bytes.length; k++) {
            for (int b = 0; b < 256; b++) {
                int[] row = bytes.clone();
                row[k] = b;
                same(what + ", byte " + k + " is " + b, row, false);
            }
            int[] before = java.util.Arrays.copyOf(bytes, k);
            int[] behind = java.util.Arrays.copyOfRange(bytes, k + 1, bytes.length);
            same(what + " without byte " + k, Encoding.join(before, behind), false);
            for (int b : LIKELY) {
                int[] more = Encoding.join(before, Encoding.bytes(b, bytes[k]), behind);
                if (more.length <= 160) {
                    same(what + ", before byte " + k + " is " + b, more, false);
                }
            }
        }
    }

    private static void same(String what, int[] bytes, boolean surelyRight) {
        CertificatePath x = new CertificatePath();
        Reference y = new Reference();
        for (int b : bytes) {
            x.feed(b, 1);
            y.feed(b, 1);
        }
        int want = y.accept();
        if (surelyRight) {
            DUE.answer(what + ": accepted by the reference", want, 0);
        }
        DUE.answer(what + ": accept()", x.accept(), want);
        if (want == 0) {
            for (int k = 0; k <= 14; k++) {
                DUE.answer(what + ": field(0, " + k + ")", x.field(0, k), y.field(0, k));
            }
            x.trim(0);
            DUE.answer(what + ": recode(0)", x.recode(0), bytes.length);
            DUE.bytes(what + " made anew", x, bytes);
        }
    }
}
