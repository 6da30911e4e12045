/**
 * Promise 8 and the terms of a certificate, its body and its extensions, at their boundaries.
 * Each test stands under the words of the document that it holds the program to.
 */
public final class CertificateEdgeTest {
    private static final Due DUE = new Due();
    private static final Taken TAKEN = new Taken(DUE);
    private static final int MOST = Integer.MAX_VALUE;

    public static void main(String[] args) {
        certificateIsBodyAndSignature();
        serialMayBeAnyNumber();
        whateverTheTimesAre();
        whateverTheSignatureIs();
        timesAreTwo();
        modulusIsAtLeast2();
        exponentIs1To1000();
        keyIsTwoNumbers();
        fourthIsPerhapsThere();
        extensionsAre1To4();
        noTwoHaveTheSameNumber();
        numbersAre0To255();
        criticalIsPerhapsThere();
        basicMayBeEmpty();
        reachOnlyBehindTrue();
        usageIsBits();
        permittedAre1To3();
        excludedAre1To3();
        oneOfTheTwoAtLeast();
        otherOctetsAre0To20();
        otherOctetsAreOfAnyKind();
        knownOctetsMayBeMoreThan20();
        leastAndGreatestCertificate();
        DUE.end();
    }

    private static Draft basic(int[]... parts) {
        return new Draft().with(Encoding.extension(1, false, Encoding.sequence(parts)));
    }

    private static Draft bounds(int[]... parts) {
        return new Draft().with(Encoding.extension(3, false, Encoding.sequence(parts)));
    }

    private static int[] other(int number) {
        return Encoding.extension(number, false, Encoding.bytes());
    }

    /** "CERTIFICATE: a SEQUENCE of a BODY and an INTEGER, the SIGNATURE." */
    private static void certificateIsBodyAndSignature() {
        int[] body = new Draft().body();
        int[] number = Encoding.integer(0);
        TAKEN.right("body and signature", Encoding.sequence(body, number));
        TAKEN.wrong("nothing at all", Encoding.bytes());
        TAKEN.wrong("an empty sequence", Encoding.sequence());
        TAKEN.wrong("a body alone", Encoding.sequence(body));
        TAKEN.wrong("a signature alone", Encoding.sequence(number));
        TAKEN.wrong("an empty body", Encoding.sequence(Encoding.sequence(), number));
        TAKEN.wrong("the other way round", Encoding.sequence(number, body));
        TAKEN.wrong("two signatures", Encoding.sequence(body, number, number));
        TAKEN.wrong("body and signature without the sequence", Encoding.join(body, number));
        TAKEN.wrong("a sequence around it", Encoding.sequence(Encoding.sequence(body, number)));
        TAKEN.wrong("the signature in the body", Encoding.sequence(Encoding.sequence(body, number)));
    }

    /** "an INTEGER, the SERIAL": the least and the greatest. */
    private static void serialMayBeAnyNumber() {
        TAKEN.right("the serial 0", new Draft().serial(0));
        TAKEN.right("the greatest serial", new Draft().serial(MOST));
        TAKEN.wrong("one above the greatest serial", new Draft().serial(MOST + 1L));
        TAKEN.wrong("the serial -1", new Draft().serial(-1));
    }

    /** Promise 8: "whatever FROM, TO .. are". */
    private static void whateverTheTimesAre() {
        long[] times = {0, 1, 50, MOST - 1, MOST};
        for (long from : times) {
            for (long to : times) {
                TAKEN.right("FROM " + from + " TO " + to, new Draft().times(from, to));
            }
        }
        TAKEN.wrong("one above the greatest FROM", new Draft().times(MOST + 1L, 0));
        TAKEN.wrong("one above the greatest TO", new Draft().times(0, MOST + 1L));
        TAKEN.wrong("FROM -1", new Draft().times(-1, 0));
        TAKEN.wrong("TO -1", new Draft().times(0, -1));
    }

    /** Promise 8: "whatever .. the signature" is. */
    private static void whateverTheSignatureIs() {
        long[] signatures = {0, 1, 2, 3, 1000003, MOST};
        for (long signature : signatures) {
            TAKEN.right("the signature " + signature, new Draft().key(2, 1).signature(signature));
        }
        TAKEN.wrong("one above the greatest signature", new Draft().signature(MOST + 1L));
        TAKEN.wrong("the signature -1", new Draft().signature(-1));
    }

    /** "a SEQUENCE of two INTEGERs, FROM and TO". */
    private static void timesAreTwo() {
        int[] number = Encoding.integer(7);
        for (int count = 0; count <= 4; count++) {
            int[][] numbers = new int[count][];
            java.util.Arrays.fill(numbers, number);
            Draft d = new Draft();
            d.times = Encoding.sequence(numbers);
            TAKEN.when(count == 2, count + " times", d);
        }
    }

    /** "the MODULUS, at least 2". */
    private static void modulusIsAtLeast2() {
        TAKEN.wrong("the modulus -1", new Draft().key(-1, 1));
        TAKEN.wrong("the modulus 0", new Draft().key(0, 1));
        TAKEN.wrong("the modulus 1", new Draft().key(1, 1));
        TAKEN.right("the modulus 2", new Draft().key(2, 1));
        TAKEN.right("the modulus 3", new Draft().key(3, 1));
        TAKEN.right("the greatest modulus", new Draft().key(MOST, 1));
        TAKEN.wrong("one above the greatest modulus", new Draft().key(MOST + 1L, 1));
    }

    /** "the EXPONENT, 1 .. 1000". */
    private static void exponentIs1To1000() {
        TAKEN.wrong("the exponent -1", new Draft().key(2, -1));
        TAKEN.wrong("the exponent 0", new Draft().key(2, 0));
        TAKEN.right("the exponent 1", new Draft().key(2, 1));
        TAKEN.right("the exponent 2", new Draft().key(2, 2));
        TAKEN.right("the exponent 999", new Draft().key(2, 999));
        TAKEN.right("the exponent 1000", new Draft().key(2, 1000));
        TAKEN.wrong("the exponent 1001", new Draft().key(2, 1001));
        TAKEN.wrong("the greatest number as exponent", new Draft().key(2, MOST));
        TAKEN.wrong("an exponent that is 1 in its lowest bytes", new Draft().key(2, 65537));
    }

    /** "a SEQUENCE of two INTEGERs, the MODULUS .. and the EXPONENT". */
    private static void keyIsTwoNumbers() {
        int[] number = Encoding.integer(7);
        for (int count = 0; count <= 4; count++) {
            int[][] numbers = new int[count][];
            java.util.Arrays.fill(numbers, number);
            Draft d = new Draft();
            d.key = Encoding.sequence(numbers);
            TAKEN.when(count == 2, count + " numbers in the key", d);
        }
    }

    /** "perhaps a FOURTH of a SEQUENCE of .. EXTENSIONs". */
    private static void fourthIsPerhapsThere() {
        TAKEN.right("no FOURTH", new Draft());
        TAKEN.right("a FOURTH", new Draft().with(other(9)));
        TAKEN.wrong("an empty FOURTH", new Draft().tail(Encoding.element(163)));
        TAKEN.wrong("two FOURTHs", new Draft().tail(
            Encoding.element(163, Encoding.sequence(other(9))), Encoding.element(163, Encoding.sequence(other(8)))));
        TAKEN.wrong("a FOURTH of two sequences", new Draft().tail(
            Encoding.element(163, Encoding.sequence(other(9)), Encoding.sequence(other(8)))));
        TAKEN.wrong("a FOURTH of an extension", new Draft().tail(Encoding.element(163, other(9))));
    }

    /** "a SEQUENCE of 1 to 4 EXTENSIONs". */
    private static void extensionsAre1To4() {
        TAKEN.wrong("no extension in a FOURTH", new Draft().tail(Encoding.element(163, Encoding.sequence())));
        for (int count = 1; count <= 6; count++) {
            Draft d = new Draft();
            for (int k = 0; k < count; k++) {
                d.with(other(30 - k));
            }
            TAKEN.when(count <= 4, count + " extensions", d);
        }
        Draft five = new Draft().with(Encoding.authority(1), Encoding.usage(5), Encoding.permitted("a"), other(9));
        TAKEN.right("each kind", five);
        TAKEN.wrong("each kind, and one more", five.with(other(10)));
    }

    /** "no two with the same number". */
    private static void noTwoHaveTheSameNumber() {
        int[] numbers = {0, 1, 2, 3, 4, 127, 128, 255};
        for (int number : numbers) {
            for (int first = 0; first < 4; first++) {
                for (int second = first + 1; second < 4; second++) {
                    TAKEN.wrong("number " + number + " at " + first + " and " + second, twoAt(number, number, first, second));
                    TAKEN.right("number " + number + " at " + first + " and 99 at " + second, twoAt(number, 99, first, second));
                }
            }
        }
        TAKEN.wrong("the same number, once critical", new Draft().with(other(9), Encoding.extension(9, true, Encoding.bytes())));
        TAKEN.wrong("the same number, other octets", new Draft().with(other(9), Encoding.extension(9, false, Encoding.bytes(1))));
        TAKEN.right("other numbers, the same octets", new Draft().with(other(9), other(10)));
    }

    private static Draft twoAt(int one, int another, int first, int second) {
        Draft d = new Draft();
        for (int k = 0; k < 4; k++) {
            d.with(k == first ? least(one) : k == second ? least(another) : other(200 + k));
        }
        return d;
    }

    private static int[] least(int number) {
        return switch (number) {
            case 1 -> Encoding.extension(1, false, Encoding.sequence());
            case 2 -> Encoding.usage();
            case 3 -> Encoding.permitted("");
            default -> other(number);
        };
    }

    /** EXTENSION: "an INTEGER 0 .. 255, its number". */
    private static void numbersAre0To255() {
        for (int number = 0; number <= 255; number++) {
            TAKEN.right("the number " + number, new Draft().with(least(number)));
        }
        long[] wrong = {-1, -255, 256, 257, 258, 259, 511, 512, 65536, 65537, MOST};
        int[][] octets = {{}, {48, 0}, {3, 1, 0}, {48, 4, 160, 2, 48, 0}};
        for (long number : wrong) {
            for (int[] content : octets) {
                TAKEN.wrong("the number " + number,
                    new Draft().with(Encoding.sequence(Encoding.integer(number), Encoding.element(4, content))));
            }
        }
    }

    /** EXTENSION: "perhaps TRUE (it is CRITICAL then); and OCTETS". */
    private static void criticalIsPerhapsThere() {
        int[] number = Encoding.integer(9);
        int[] octets = Encoding.element(4, Encoding.bytes(1));
        TAKEN.right("not critical", new Draft().with(Encoding.sequence(number, octets)));
        TAKEN.right("critical", new Draft().with(Encoding.sequence(number, Encoding.TRUE, octets)));
        TAKEN.wrong("critical twice", new Draft().with(Encoding.sequence(number, Encoding.TRUE, Encoding.TRUE, octets)));
        TAKEN.wrong("critical behind the octets", new Draft().with(Encoding.sequence(number, octets, Encoding.TRUE)));
        TAKEN.wrong("critical before the number", new Draft().with(Encoding.sequence(Encoding.TRUE, number, octets)));
        TAKEN.wrong("no octets", new Draft().with(Encoding.sequence(number)));
        TAKEN.wrong("critical without octets", new Draft().with(Encoding.sequence(number, Encoding.TRUE)));
        TAKEN.wrong("octets without a number", new Draft().with(Encoding.sequence(octets)));
        TAKEN.wrong("an empty extension", new Draft().with(Encoding.sequence()));
        TAKEN.wrong("octets twice", new Draft().with(Encoding.sequence(number, octets, octets)));
    }

    /** BASIC: "a SEQUENCE of perhaps TRUE". */
    private static void basicMayBeEmpty() {
        TAKEN.right("an empty BASIC", basic());
        TAKEN.right("an authority", basic(Encoding.TRUE));
        TAKEN.wrong("TRUE twice", basic(Encoding.TRUE, Encoding.TRUE));
        TAKEN.wrong("a BASIC of nothing", new Draft().with(Encoding.extension(1, false, Encoding.bytes())));
        TAKEN.wrong("TRUE without the sequence", new Draft().with(Encoding.extension(1, false, Encoding.TRUE)));
        TAKEN.wrong("two sequences",
            new Draft().with(Encoding.extension(1, false, Encoding.join(Encoding.sequence(), Encoding.sequence()))));
    }

    /** BASIC: "only if that is there, perhaps an INTEGER, the REACH". */
    private static void reachOnlyBehindTrue() {
        int[] zero = Encoding.integer(0);
        TAKEN.right("TRUE and the reach 0", basic(Encoding.TRUE, zero));
        TAKEN.right("TRUE and the greatest reach", basic(Encoding.TRUE, Encoding.integer(MOST)));
        TAKEN.wrong("TRUE and one above the greatest reach", basic(Encoding.TRUE, Encoding.integer(MOST + 1L)));
        TAKEN.wrong("TRUE and the reach -1", basic(Encoding.TRUE, Encoding.integer(-1)));
        TAKEN.wrong("a reach without TRUE", basic(zero));
        TAKEN.wrong("a reach before TRUE", basic(zero, Encoding.TRUE));
        TAKEN.wrong("two reaches", basic(Encoding.TRUE, zero, zero));
    }

    /** "2 (USAGE): BITS." */
    private static void usageIsBits() {
        TAKEN.right("the empty set", new Draft().with(Encoding.usage()));
        TAKEN.right("all numbers", new Draft().with(Encoding.usage(0, 1, 2, 3, 4, 5, 6, 7)));
        TAKEN.wrong("no BITS", new Draft().with(Encoding.extension(2, false, Encoding.bytes())));
        TAKEN.wrong("BITS twice", new Draft().with(Encoding.extension(2, false, Encoding.join(Encoding.bits(), Encoding.bits()))));
        TAKEN.wrong("BITS in a sequence", new Draft().with(Encoding.extension(2, false, Encoding.sequence(Encoding.bits()))));
    }

    private static void listsOf1To3(int tag) {
        String[] names = {"a", "", "b.c.d.e", "a", "f"};
        for (int count = 0; count <= 5; count++) {
            int[] list = Encoding.names(tag, java.util.Arrays.copyOf(names, count));
            int[] first = tag == 160 ? list : Encoding.names(160, "p");
            int[] second = tag == 161 ? list : Encoding.names(161, "q");
            boolean isRight = count >= 1 && count <= 3;
            TAKEN.when(isRight, count + " names in " + tag, bounds(list));
            TAKEN.when(isRight, count + " names in " + tag + ", and the other list", bounds(first, second));
        }
        int[] empty = Encoding.names(tag, "");
        TAKEN.right("the one name in " + tag + " is empty", bounds(empty));
        TAKEN.right("three empty names in " + tag, bounds(Encoding.names(tag, "", "", "")));
        TAKEN.wrong("four empty names in " + tag, bounds(Encoding.names(tag, "", "", "", "")));
    }

    /** BOUNDS: "perhaps a FIRST of 1 to 3 names". */
    private static void permittedAre1To3() {
        listsOf1To3(160);
    }

    /** BOUNDS: "perhaps a SECOND of 1 to 3 names". */
    private static void excludedAre1To3() {
        listsOf1To3(161);
    }

    /** BOUNDS: "one of the two at least is there". */
    private static void oneOfTheTwoAtLeast() {
        int[] first = Encoding.names(160, "a");
        int[] second = Encoding.names(161, "b");
        TAKEN.wrong("neither", bounds());
        TAKEN.right("FIRST", bounds(first));
        TAKEN.right("SECOND", bounds(second));
        TAKEN.right("both", bounds(first, second));
        TAKEN.wrong("both, the other way round", bounds(second, first));
        TAKEN.wrong("FIRST twice", bounds(first, first));
        TAKEN.wrong("SECOND twice", bounds(second, second));
        TAKEN.wrong("three lists", bounds(first, second, second));
        TAKEN.wrong("a BOUNDS of nothing", new Draft().with(Encoding.extension(3, false, Encoding.bytes())));
    }

    /** "any other: 0 to 20 bytes". */
    private static void otherOctetsAre0To20() {
        int[] numbers = {0, 4, 5, 127, 128, 255};
        int[] sizes = {0, 1, 19, 20, 21, 22, 40};
        for (int number : numbers) {
            for (int size : sizes) {
                TAKEN.when(size <= 20, size + " octets of " + number,
                    new Draft().with(Encoding.extension(number, false, Encoding.repeated(1, size))));
                TAKEN.when(size <= 20, size + " octets of " + number + ", which is critical and the last",
                    new Draft().with(other(77), Encoding.extension(number, true, Encoding.repeated(255, size))));
            }
        }
    }

    /** "bytes of any kind". */
    private static void otherOctetsAreOfAnyKind() {
        for (int b = 0; b < 256; b++) {
            TAKEN.right("octets of " + b, new Draft().with(Encoding.extension(0, false, Encoding.repeated(b, 20))));
            TAKEN.right("one octet " + b, new Draft().with(Encoding.extension(4, true, Encoding.bytes(b))));
        }
    }

    /** The 20 bytes bind only the others: lists of names may be longer. */
    private static void knownOctetsMayBeMoreThan20() {
        int[] octets = Encoding.sequence(Encoding.names(160, "abcdefgh", "abcdefgh", "abcdefgh"), Encoding.names(161, "a.b.c.d"));
        DUE.answer("octets of BOUNDS", octets.length > 20, true);
        TAKEN.right("a BOUNDS of more than 20 bytes", new Draft().with(Encoding.extension(3, false, octets)));
        TAKEN.wrong("the same bytes in another one", new Draft().with(Encoding.extension(4, false, octets)));
    }

    /** The buffer holds certificates of up to 160 bytes; the least one has 30. */
    private static void leastAndGreatestCertificate() {
        Draft least = new Draft().names("", "");
        DUE.answer("bytes of the least one", least.bytes().length, 30);
        TAKEN.right("the least one", least);
        Draft greatest = new Draft().names("abcdefgh.abcdefgh.abcdefgh.abcdefgh", "abcdefgh.abcdefgh.abcdefgh.abcdefgh")
            .serial(MOST).times(MOST, MOST).key(MOST, 1000).signature(MOST)
            .with(Encoding.extension(9, true, Encoding.repeated(0, 18)));
        DUE.answer("bytes of the greatest one", greatest.bytes().length, 160);
        TAKEN.right("the greatest one", greatest);
    }
}
