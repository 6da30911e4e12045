/** Promises 8 and 9: accept and count, with every rule of the encoding. */
public final class AcceptTest {
    private static final Due DUE = new Due();

    private static final int[][] RIGHT_NUMBERS = {
        {0}, {1}, {127}, {0, 128}, {0, 255}, {1, 0}, {127, 255}, {0, 128, 0}, {0, 255, 255}, {127, 255, 255},
        {0, 128, 0, 0}, {1, 0, 0, 0}, {127, 255, 255, 255},
    };
    private static final int[][] WRONG_NUMBERS = {
        {}, {128}, {255}, {0, 0}, {0, 1}, {0, 127}, {128, 0}, {255, 255}, {0, 0, 128}, {0, 127, 255},
        {0, 0, 0, 1}, {0, 0, 128, 0}, {128, 0, 0, 0}, {255, 255, 255, 255}, {0, 128, 0, 0, 0},
        {1, 0, 0, 0, 0}, {0, 0, 0, 0, 1}, {0, 255, 255, 255, 255},
    };

    public static void main(String[] args) {
        plainOnes();
        frame();
        lengths();
        numbers();
        numberRanges();
        names();
        order();
        extensionLists();
        extensions();
        basic();
        usage();
        bounds();
        otherExtensions();
        fullAndCount();
        theBufferStays();
        DUE.end();
    }

    private static void due(String what, int[] bytes, boolean right) {
        CertificatePath x = new CertificatePath();
        Encoding.load(x, bytes);
        DUE.answer(what + ": fits in", x.length(), bytes.length);
        DUE.answer(what + ": accept()", x.accept(), right ? 0 : -1);
        DUE.answer(what + ": count()", x.count(), right ? 1 : 0);
        DUE.bytes(what + ": the buffer stays", x, bytes);
    }

    private static void right(String what, int[] bytes) {
        due(what, bytes, true);
    }

    private static void wrong(String what, int[] bytes) {
        due(what, bytes, false);
    }

    private static Draft draft() {
        return new Draft();
    }

    private static void plainOnes() {
        right("plain", draft().bytes());
        right("empty names", draft().names("", "").bytes());
        right("FROM behind TO", draft().times(9, 3).bytes());
        right("signature beyond the modulus", draft().signature(2147483647).bytes());
        right("all parts", draft().with(Encoding.authority(3), Encoding.usage(5), Encoding.permitted("a")).bytes());
        wrong("nothing", Encoding.bytes());
        wrong("one byte", Encoding.bytes(48));
        wrong("an empty sequence", Encoding.bytes(48, 0));
    }

    private static void frame() {
        int[] body = draft().body();
        int[] one = Encoding.integer(1);
        wrong("a byte behind", Encoding.join(draft().bytes(), Encoding.bytes(0)));
        wrong("a byte before", Encoding.join(Encoding.bytes(48), draft().bytes()));
        wrong("a certificate behind", Encoding.join(draft().bytes(), draft().bytes()));
        wrong("no signature", Encoding.sequence(body));
        wrong("two signatures", Encoding.sequence(body, one, one));
        wrong("signature first", Encoding.sequence(one, body));
        wrong("only a signature", Encoding.sequence(one));
        wrong("an empty body", Encoding.sequence(Encoding.sequence(), one));
        wrong("two bodies", Encoding.sequence(body, body, one));
        wrong("octets as signature", Encoding.sequence(body, Encoding.element(4, Encoding.bytes(1))));
        wrong("another tag outside", Encoding.element(49, body, one));
        int[] bytes = draft().bytes();
        for (int size = 0; size < bytes.length; size++) {
            wrong("the first " + size + " bytes", java.util.Arrays.copyOf(bytes, size));
        }
        wrong("one length too great", changed(bytes, 1, bytes[1] + 1));
        wrong("one length too small", changed(bytes, 1, bytes[1] - 1));
        wrong("body length too great", changed(bytes, 3, bytes[3] + 1));
        wrong("body length over the signature", changed(bytes, 3, bytes[3] + 3));
        wrong("body length too small", changed(bytes, 3, bytes[3] - 1));
        wrong("another tag of the body", changed(bytes, 2, 49));
    }

    private static int[] changed(int[] bytes, int k, int b) {
        int[] copy = bytes.clone();
        copy[k] = b;
        return copy;
    }

    /** A right certificate of so many bytes in all. */
    private static int[] sized(int size) {
        for (int a = 0; a <= 20; a++) {
            for (int b = 0; b <= 20; b++) {
                for (int c = 18; c <= 20; c++) {
                    Draft d = draft().with(
                        Encoding.extension(7, false, Encoding.repeated(1, a)),
                        Encoding.extension(8, false, Encoding.repeated(2, b)),
                        Encoding.extension(9, false, Encoding.repeated(3, c)),
                        Encoding.extension(200, true, Encoding.repeated(4, 20)));
                    if (d.bytes().length == size) {
                        return d.bytes();
                    }
                }
            }
        }
        throw new IllegalStateException("no certificate of " + size + " bytes");
    }

    private static void lengths() {
        // 129 is the whole with the content 127; the next content, 128, takes one byte more of length.
        right("content 127", sized(129));
        right("content 128", sized(131));
        // The body's content is 127 with a whole of 135, and 128 with one of 137.
        right("body content 127", sized(135));
        right("body content 128", sized(137));
        right("160 bytes", longest());
        int[] long128 = sized(131);
        wrong("length byte 128", changed(long128, 1, 128));
        wrong("length byte 130", changed(long128, 1, 130));
        wrong("length byte 255", changed(long128, 1, 255));
        wrong("length 129, 127", changed(long128, 2, 127));
        wrong("length 129, 129", changed(long128, 2, 129));
        wrong("length 129, 255", changed(long128, 2, 255));
        int[] bytes = draft().bytes();
        int[] rest = java.util.Arrays.copyOfRange(bytes, 2, bytes.length);
        wrong("a short length in two bytes", Encoding.join(Encoding.bytes(48, 129, rest.length), rest));
        wrong("a short length in three bytes", Encoding.join(Encoding.bytes(48, 130, 0, rest.length), rest));
        wrong("a length without end", Encoding.join(Encoding.bytes(48, 128), rest, Encoding.bytes(0, 0)));
        int[] longRest = java.util.Arrays.copyOfRange(long128, 3, long128.length);
        wrong("a long length in three bytes", Encoding.join(Encoding.bytes(48, 130, 0, 128), longRest));
        wrong("a long length in one byte", Encoding.join(Encoding.bytes(48, 128), longRest));
        wrong("129 at the end", Encoding.bytes(48, 129));
        wrong("129, 128 at the end", Encoding.bytes(48, 129, 128));
        wrong("a serial with a long length", with(Encoding.bytes(2, 129, 1, 1)));
        wrong("a serial with length 128", with(Encoding.bytes(2, 128, 1, 0, 0)));
        Draft d = draft();
        d.issuer = Encoding.bytes(48, 129, 3, 19, 1, 97);
        wrong("an issuer with a long length", d.bytes());
        d = draft();
        d.issuer = Encoding.bytes(48, 4, 19, 129, 1, 97);
        wrong("a label with a long length", d.bytes());
        d.issuer = Encoding.bytes(48, 3, 19, 2, 97);
        wrong("a label that goes beyond its name", d.bytes());
    }

    private static int[] longest() {
        int[] bytes = draft().names("abcdefgh", "abcdefgh").with(
            Encoding.extension(7, false, Encoding.repeated(1, 20)),
            Encoding.extension(8, false, Encoding.repeated(2, 20)),
            Encoding.extension(9, false, Encoding.repeated(3, 20)),
            Encoding.extension(10, false, Encoding.repeated(3, 16))).bytes();
        if (bytes.length != 160) {
            throw new IllegalStateException("the longest one has " + bytes.length + " bytes");
        }
        return bytes;
    }

    private static int[] with(int[] serial) {
        Draft d = draft();
        d.serial = serial;
        return d.bytes();
    }

    private static void numbers() {
        int[] one = Encoding.integer(1);
        int[] two = Encoding.integer(2);
        for (int right = 0; right < 2; right++) {
            for (int[] content : right == 1 ? RIGHT_NUMBERS : WRONG_NUMBERS) {
                String told = java.util.Arrays.toString(content);
                int[] number = Encoding.element(2, content);
                due("serial " + told, with(number), right == 1);
                Draft d = draft();
                d.signature = number;
                due("signature " + told, d.bytes(), right == 1);
                d = draft();
                d.times = Encoding.sequence(number, one);
                due("FROM " + told, d.bytes(), right == 1);
                d.times = Encoding.sequence(one, number);
                due("TO " + told, d.bytes(), right == 1);
                d = draft().with(Encoding.extension(1, false, Encoding.sequence(Encoding.TRUE, number)));
                due("REACH " + told, d.bytes(), right == 1);
                if (right == 0) {
                    d = draft();
                    d.key = Encoding.sequence(number, one);
                    wrong("modulus " + told, d.bytes());
                    d.key = Encoding.sequence(two, number);
                    wrong("exponent " + told, d.bytes());
                    d = draft().with(Encoding.sequence(number, Encoding.element(4)));
                    wrong("extension's number " + told, d.bytes());
                }
            }
        }
    }

    private static void numberRanges() {
        wrong("modulus 0", draft().key(0, 1).bytes());
        wrong("modulus 1", draft().key(1, 1).bytes());
        right("modulus 2", draft().key(2, 1).bytes());
        right("the greatest modulus", draft().key(2147483647, 1).bytes());
        wrong("exponent 0", draft().key(2, 0).bytes());
        right("exponent 1", draft().key(2, 1).bytes());
        right("exponent 1000", draft().key(2, 1000).bytes());
        wrong("exponent 1001", draft().key(2, 1001).bytes());
        wrong("the greatest exponent", draft().key(2, 2147483647).bytes());
        right("extension 0", draft().with(Encoding.extension(0, false, Encoding.bytes())).bytes());
        right("extension 4", draft().with(Encoding.extension(4, false, Encoding.bytes())).bytes());
        right("extension 255", draft().with(Encoding.extension(255, false, Encoding.bytes())).bytes());
        wrong("extension 256", draft().with(Encoding.extension(256, false, Encoding.bytes())).bytes());
        wrong("extension 257", draft().with(Encoding.extension(257, false, Encoding.sequence())).bytes());
        wrong("the greatest extension", draft().with(Encoding.extension(2147483647, false, Encoding.bytes())).bytes());
    }

    private static void names() {
        String[] rightOnes = {"", "a", "z", "a.b", "a.b.c", "a.a.a.a", "abcdefgh", "abcdefgh.zyxwvuts.a.z"};
        for (String told : rightOnes) {
            right("issuer " + told, draft().names(told, "a").bytes());
            right("subject " + told, draft().names("a", told).bytes());
            right("permitted " + told, draft().with(Encoding.permitted(told)).bytes());
            right("excluded " + told, draft().with(Encoding.excluded(told)).bytes());
        }
        wrongName("five labels", Encoding.name("a.b.c.d.e"));
        wrongName("a label of nine letters", Encoding.name("abcdefghi"));
        wrongName("an empty label", Encoding.sequence(Encoding.label("")));
        wrongName("a label and an empty one", Encoding.sequence(Encoding.label("a"), Encoding.label("")));
        wrongName("a great letter", Encoding.name("A"));
        wrongName("a sign before the letters", Encoding.sequence(Encoding.label("`")));
        wrongName("a sign behind the letters", Encoding.sequence(Encoding.label("a{")));
        wrongName("a zero byte", Encoding.sequence(Encoding.label("\0")));
        wrongName("a zero byte first", Encoding.sequence(Encoding.label("\0a")));
        wrongName("a byte of 225", Encoding.sequence(Encoding.label("\u00e1")));
        wrongName("a label of another tag", Encoding.sequence(Encoding.element(12, Encoding.bytes(97))));
        wrongName("a name of another tag", Encoding.element(49, Encoding.label("a")));
        wrongName("a label alone", Encoding.label("a"));
        wrongName("a name in a name", Encoding.sequence(Encoding.name("a")));
        wrongName("a number in a name", Encoding.sequence(Encoding.integer(1)));
        wrongName("a name and a number", Encoding.sequence(Encoding.label("a"), Encoding.integer(1)));
        wrongName("no name", Encoding.bytes());
        wrongName("two names", Encoding.join(Encoding.name("a"), Encoding.name("a")));
    }

    private static void wrongName(String what, int[] name) {
        Draft d = draft();
        d.issuer = name;
        wrong("issuer: " + what, d.bytes());
        d = draft();
        d.subject = name;
        wrong("subject: " + what, d.bytes());
        if (!what.equals("two names")) {
            for (int tag = 160; tag <= 161; tag++) {
                int[] list = Encoding.sequence(Encoding.element(tag, name));
                wrong("list " + tag + ": " + what, draft().with(Encoding.extension(3, false, list)).bytes());
            }
        }
    }

    private static void order() {
        int[] one = Encoding.integer(1);
        Draft d = draft();
        d.times = Encoding.sequence(one);
        wrong("one time", d.bytes());
        d.times = Encoding.sequence(one, one, one);
        wrong("three times", d.bytes());
        d.times = Encoding.sequence();
        wrong("no times", d.bytes());
        d.times = Encoding.join(one, one);
        wrong("bare times", d.bytes());
        d.times = Encoding.element(49, one, one);
        wrong("times of another tag", d.bytes());
        d = draft();
        d.key = Encoding.sequence(Encoding.integer(2));
        wrong("no exponent", d.bytes());
        d.key = Encoding.sequence(Encoding.integer(2), one, one);
        wrong("three numbers in the key", d.bytes());
        d.key = Encoding.bytes();
        wrong("no key", d.bytes());
        d.key = Encoding.element(160, Encoding.integer(2), one);
        wrong("a key of another tag", d.bytes());
        wrong("no serial", with(Encoding.bytes()));
        wrong("two serials", with(Encoding.join(one, one)));
        wrong("TRUE as serial", with(Encoding.TRUE));
        wrong("a number behind the key", draft().tail(one).bytes());
        wrong("a sequence behind the key", draft().tail(Encoding.sequence()).bytes());
    }

    private static void extensionLists() {
        int[] x = Encoding.extension(9, false, Encoding.bytes());
        int[] list = Encoding.sequence(x);
        right("one extension", draft().tail(Encoding.element(163, list)).bytes());
        wrong("an empty FOURTH", draft().tail(Encoding.element(163)).bytes());
        wrong("no extensions", draft().tail(Encoding.element(163, Encoding.sequence())).bytes());
        wrong("a bare extension", draft().tail(Encoding.element(163, x)).bytes());
        wrong("two lists", draft().tail(Encoding.element(163, list, list)).bytes());
        int[] other = Encoding.sequence(Encoding.extension(8, false, Encoding.bytes()));
        wrong("two lists of two numbers", draft().tail(Encoding.element(163, list, other)).bytes());
        wrong("two FOURTHs", draft().tail(Encoding.element(163, list), Encoding.element(163, other)).bytes());
        wrong("a byte behind the list", draft().tail(Encoding.element(163, list, Encoding.bytes(0))).bytes());
        wrong("a number behind the FOURTH", draft().tail(Encoding.element(163, list), Encoding.integer(1)).bytes());
        int[] wrongTags = {48, 160, 161, 162, 164, 35, 131};
        for (int tag : wrongTags) {
            wrong("tag " + tag + " for FOURTH", draft().tail(Encoding.element(tag, list)).bytes());
        }
        wrong("another tag for the list", draft().tail(Encoding.element(163, Encoding.element(49, x))).bytes());
        for (int n = 1; n <= 5; n++) {
            Draft d = draft();
            for (int k = 0; k < n; k++) {
                d.with(Encoding.extension(20 + k, k % 2 == 0, Encoding.bytes()));
            }
            due(n + " extensions", d.bytes(), n <= 4);
        }
        twoOfOneNumber();
    }

    private static void twoOfOneNumber() {
        int[][] contents = {
            Encoding.bytes(), Encoding.sequence(Encoding.TRUE), Encoding.bits(5),
            Encoding.sequence(Encoding.names(160, "a")), Encoding.bytes(1),
        };
        int[] numbers = {0, 1, 2, 3, 255};
        for (int k = 0; k < numbers.length; k++) {
            int[] x = Encoding.extension(numbers[k], false, contents[k]);
            int[] critical = Encoding.extension(numbers[k], true, contents[k]);
            int[] other = Encoding.extension(77, false, Encoding.bytes());
            int[] third = Encoding.extension(78, false, Encoding.bytes());
            right("once " + numbers[k], draft().with(x, other, third).bytes());
            wrong("twice " + numbers[k], draft().with(x, x).bytes());
            wrong("twice, once critical " + numbers[k], draft().with(x, critical).bytes());
            wrong("first and third " + numbers[k], draft().with(x, other, critical).bytes());
            wrong("first and fourth " + numbers[k], draft().with(x, other, third, critical).bytes());
            wrong("third and fourth " + numbers[k], draft().with(other, third, x, critical).bytes());
        }
    }

    private static void extensions() {
        int[] nine = Encoding.integer(9);
        int[] octets = Encoding.element(4);
        right("not critical", draft().with(Encoding.sequence(nine, octets)).bytes());
        right("critical", draft().with(Encoding.sequence(nine, Encoding.TRUE, octets)).bytes());
        int[] no = Encoding.element(1, Encoding.bytes(0));
        wrong("critical 0", draft().with(Encoding.sequence(nine, no, octets)).bytes());
        int[] one = Encoding.element(1, Encoding.bytes(1));
        wrong("critical 1", draft().with(Encoding.sequence(nine, one, octets)).bytes());
        int[] empty = Encoding.element(1);
        wrong("empty TRUE", draft().with(Encoding.sequence(nine, empty, octets)).bytes());
        int[] twoBytes = Encoding.element(1, Encoding.bytes(255, 255));
        wrong("TRUE of two bytes", draft().with(Encoding.sequence(nine, twoBytes, octets)).bytes());
        wrong("TRUE twice", draft().with(Encoding.sequence(nine, Encoding.TRUE, Encoding.TRUE, octets)).bytes());
        wrong("TRUE behind", draft().with(Encoding.sequence(nine, octets, Encoding.TRUE)).bytes());
        wrong("no octets", draft().with(Encoding.sequence(nine)).bytes());
        wrong("critical, no octets", draft().with(Encoding.sequence(nine, Encoding.TRUE)).bytes());
        wrong("octets twice", draft().with(Encoding.sequence(nine, octets, octets)).bytes());
        wrong("no number", draft().with(Encoding.sequence(octets)).bytes());
        wrong("no number but TRUE", draft().with(Encoding.sequence(Encoding.TRUE, octets)).bytes());
        wrong("octets first", draft().with(Encoding.sequence(octets, nine)).bytes());
        wrong("an empty extension", draft().with(Encoding.sequence()).bytes());
        wrong("another tag of octets", draft().with(Encoding.sequence(nine, Encoding.element(36))).bytes());
        wrong("another tag of the extension", draft().with(Encoding.element(49, nine, octets)).bytes());
    }

    private static void basic(String what, int[] octets, boolean isRight) {
        due("BASIC " + what, draft().with(Encoding.extension(1, false, octets)).bytes(), isRight);
        due("critical BASIC " + what, draft().with(Encoding.extension(1, true, octets)).bytes(), isRight);
    }

    private static void basic() {
        int[] reach = Encoding.integer(0);
        basic("empty", Encoding.sequence(), true);
        basic("TRUE", Encoding.sequence(Encoding.TRUE), true);
        basic("TRUE and a reach", Encoding.sequence(Encoding.TRUE, reach), true);
        basic("a reach alone", Encoding.sequence(reach), false);
        basic("two reaches", Encoding.sequence(Encoding.TRUE, reach, reach), false);
        basic("a reach first", Encoding.sequence(reach, Encoding.TRUE), false);
        basic("TRUE twice", Encoding.sequence(Encoding.TRUE, Encoding.TRUE), false);
        basic("a false", Encoding.sequence(Encoding.element(1, Encoding.bytes(0))), false);
        basic("nothing", Encoding.bytes(), false);
        basic("bare TRUE", Encoding.TRUE, false);
        basic("twice", Encoding.join(Encoding.sequence(), Encoding.sequence()), false);
        basic("and a byte", Encoding.join(Encoding.sequence(), Encoding.bytes(0)), false);
        basic("of another tag", Encoding.element(49), false);
        basic("with octets in it", Encoding.sequence(Encoding.TRUE, Encoding.element(4)), false);
        basic("bits", Encoding.bits(5), false);
    }

    private static void usage() {
        for (int first = 0; first < 256; first++) {
            DUE.answer("BITS of one byte " + first, acceptUsage(Encoding.element(3, Encoding.bytes(first))),
                first == 0 ? 0 : -1);
        }
        for (int first = 0; first < 10; first++) {
            for (int second = 0; second < 256; second++) {
                boolean isRight = second != 0 && Integer.numberOfTrailingZeros(second) == first;
                DUE.answer("BITS " + first + " " + second,
                    acceptUsage(Encoding.element(3, Encoding.bytes(first, second))), isRight ? 0 : -1);
            }
        }
        DUE.answer("BITS 255 128", acceptUsage(Encoding.element(3, Encoding.bytes(255, 128))), -1);
        DUE.answer("BITS empty", acceptUsage(Encoding.element(3)), -1);
        DUE.answer("BITS of three bytes", acceptUsage(Encoding.element(3, Encoding.bytes(0, 1, 1))), -1);
        DUE.answer("BITS of three bytes, the last 0", acceptUsage(Encoding.element(3, Encoding.bytes(7, 128, 0))), -1);
        DUE.answer("no BITS", acceptUsage(Encoding.bytes()), -1);
        DUE.answer("BITS twice", acceptUsage(Encoding.join(Encoding.bits(), Encoding.bits())), -1);
        DUE.answer("BITS in a sequence", acceptUsage(Encoding.sequence(Encoding.bits())), -1);
        DUE.answer("BITS of another tag", acceptUsage(Encoding.element(4, Encoding.bytes(0))), -1);
    }

    private static int acceptUsage(int[] octets) {
        CertificatePath x = new CertificatePath();
        Encoding.load(x, draft().with(Encoding.extension(2, false, octets)).bytes());
        return x.accept();
    }

    private static void bounds(String what, int[] octets, boolean isRight) {
        due("BOUNDS " + what, draft().with(Encoding.extension(3, true, octets)).bytes(), isRight);
    }

    private static void bounds() {
        int[] first = Encoding.names(160, "a");
        int[] second = Encoding.names(161, "b");
        bounds("permitted", Encoding.sequence(first), true);
        bounds("excluded", Encoding.sequence(second), true);
        bounds("both", Encoding.sequence(first, second), true);
        bounds("three and three", Encoding.sequence(Encoding.names(160, "", "a", "a"),
            Encoding.names(161, "b.c", "", "b")), true);
        bounds("four permitted", Encoding.sequence(Encoding.names(160, "a", "b", "c", "d")), false);
        bounds("four excluded", Encoding.sequence(Encoding.names(161, "a", "b", "c", "d")), false);
        bounds("the other way round", Encoding.sequence(second, first), false);
        bounds("neither", Encoding.sequence(), false);
        bounds("an empty FIRST", Encoding.sequence(Encoding.element(160)), false);
        bounds("an empty SECOND", Encoding.sequence(Encoding.element(161)), false);
        bounds("an empty FIRST and a SECOND", Encoding.sequence(Encoding.element(160), second), false);
        bounds("a FIRST and an empty SECOND", Encoding.sequence(first, Encoding.element(161)), false);
        bounds("FIRST twice", Encoding.sequence(first, first), false);
        bounds("SECOND twice", Encoding.sequence(second, second), false);
        bounds("a third list", Encoding.sequence(first, second, Encoding.names(162, "c")), false);
        bounds("a bare name", Encoding.sequence(Encoding.name("a")), false);
        bounds("a bare FIRST", first, false);
        bounds("nothing", Encoding.bytes(), false);
        bounds("twice", Encoding.join(Encoding.sequence(first), Encoding.sequence(second)), false);
        bounds("names in a sequence", Encoding.sequence(Encoding.element(160, Encoding.sequence(first))), false);
        bounds("a number as name", Encoding.sequence(Encoding.element(160, Encoding.integer(1))), false);
        bounds("a number behind a name",
            Encoding.sequence(Encoding.element(160, Encoding.name("a"), Encoding.integer(1))), false);
    }

    private static void otherExtensions() {
        for (int size = 0; size <= 25; size++) {
            int[] octets = Encoding.repeated(255, size);
            due("extension 0 of " + size, draft().with(Encoding.extension(0, false, octets)).bytes(), size <= 20);
            due("extension 4 of " + size, draft().with(Encoding.extension(4, true, octets)).bytes(), size <= 20);
        }
        right("any bytes", draft().with(Encoding.extension(4, true, Encoding.bytes(48, 129, 0, 255, 2))).bytes());
        // BASIC, USAGE and BOUNDS have their own form, however few bytes there are.
        for (int number = 1; number <= 3; number++) {
            wrong("any bytes in " + number, draft().with(Encoding.extension(number, false, Encoding.bytes(9))).bytes());
        }
    }

    private static void fullAndCount() {
        CertificatePath x = new CertificatePath();
        int[] bytes = draft().bytes();
        Encoding.load(x, bytes);
        for (int i = 0; i < 8; i++) {
            DUE.answer("count before " + i, x.count(), i);
            DUE.answer("the same one again", x.accept(), i);
        }
        DUE.answer("a ninth", x.accept(), -2);
        DUE.answer("count of eight", x.count(), 8);
        x.set(0, 49);
        DUE.answer("no certificate, eight kept", x.accept(), -1);
        x.trim(0);
        DUE.answer("an empty buffer, eight kept", x.accept(), -1);
        Encoding.load(x, draft().serial(77).bytes());
        DUE.answer("another ninth", x.accept(), -2);
        for (int i = 0; i < 8; i++) {
            DUE.answer("serial stays " + i, x.field(i, 0), 1);
        }
        DUE.answer("the ninth is not there", x.field(8, 0), -1);
        DUE.answer("count stays eight", x.count(), 8);
    }

    private static void theBufferStays() {
        CertificatePath x = new CertificatePath();
        Encoding.load(x, draft().serial(5).bytes());
        x.accept();
        x.set(6, 6);
        DUE.answer("what is kept does not follow the buffer", x.field(0, 0), 5);
        DUE.answer("the changed one", x.accept(), 1);
        x.set(0, 0);
        DUE.answer("a wrong one", x.accept(), -1);
        DUE.answer("the first", x.field(0, 0), 5);
        DUE.answer("the second", x.field(1, 0), 6);
        DUE.answer("count", x.count(), 2);
        x.feed(0, 4);
        x.trim(0);
        DUE.answer("the second yet", x.field(1, 0), 6);
    }
}
