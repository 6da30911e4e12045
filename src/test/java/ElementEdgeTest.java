/**
 * Promise 8 and the terms of an element, its length, INTEGER, TRUE, LABEL, OCTETS, BITS and NAME, at their boundaries.
 * Each test stands under the words of the document that it holds the program to.
 */
public final class ElementEdgeTest {
    private static final Due DUE = new Due();
    private static final Taken TAKEN = new Taken(DUE);

    public static void main(String[] args) {
        lengthsUpTo127TakeOneByte();
        lengthsFrom128TakeTwoBytes();
        greatLengthsGoBeyondTheBuffer();
        otherBeginningsOfALengthAreWrong();
        otherBeginningsAreWrongInEveryElement();
        contentsEndWhereTheirElementEnds();
        nothingIsReadBehindAFullBuffer();
        nothingStandsBeforeBetweenOrBehind();
        nothingStandsTwice();
        whatIsPerhapsThereMayBeAbsent();
        everyTagIsTheOneThatIsSaid();
        integersHave1To4Bytes();
        integersBeginBelow128();
        integersAreNotLongerThanNeeded();
        integersReachFrom0ToTheGreatest();
        trueIsTheByte255();
        labelsHave1To8Letters();
        lettersAre97To122();
        octetsMayBeEmpty();
        theEmptySetIsTheByte0();
        otherSetsAreTwoBytes();
        everySetIsRead();
        namesHave0To4Labels();
        DUE.end();
    }

    /** A certificate in which each kind of element is there, with the least bytes. */
    private static Draft rich() {
        return new Draft().names("a.b", "c").with(
            Encoding.extension(1, true, Encoding.sequence(Encoding.TRUE, Encoding.integer(3))),
            Encoding.usage(5),
            Encoding.bounds(new String[] {"d"}, new String[] {"e"}),
            Encoding.extension(9, true, Encoding.bytes(1, 2)));
    }

    /** A draft with so many bytes of octets in four extensions. */
    private static Draft filled(int octets) {
        Draft d = new Draft();
        int left = octets;
        for (int k = 0; k < 4; k++) {
            int size = Math.min(20, left);
            d.with(Encoding.extension(10 + k, false, Encoding.repeated(k, size)));
            left -= size;
        }
        return d;
    }

    private static Draft wholeOf(int length) {
        int octets = 0;
        while (lengthOf(filled(octets).bytes()) != length) {
            octets++;
        }
        return filled(octets);
    }

    private static Draft bodyOf(int length) {
        int octets = 0;
        while (lengthOf(filled(octets).body()) != length) {
            octets++;
        }
        return filled(octets);
    }

    /** 160 bytes in all. */
    private static Draft fullest() {
        Draft d = filled(60).names("abcdefgh", "abcdef");
        d.extensions.set(3, Encoding.extension(13, false, Encoding.repeated(3, 18)));
        return d;
    }

    private static int lengthOf(int[] bytes) {
        return bytes[1] == 129 ? bytes[2] : bytes[1];
    }

    private static int[] slice(int[] bytes, int from) {
        return java.util.Arrays.copyOfRange(bytes, from, bytes.length);
    }

    /** The whole, or its body, with another head than its own. */
    private static int[] wholeUnder(int[] head, Draft d) {
        return Encoding.join(head, Tree.of(d.bytes()).content());
    }

    private static int[] bodyUnder(int[] head, Draft d) {
        Tree whole = Tree.of(d.bytes());
        Tree body = whole.parts.get(0);
        return whole.with(body, Encoding.join(head, body.content()));
    }

    /** "the length is one byte if it is 0 .. 127". */
    private static void lengthsUpTo127TakeOneByte() {
        TAKEN.right("names of length 0", new Draft().names("", ""));
        TAKEN.right("octets of length 0", new Draft().with(Encoding.extension(9, false, Encoding.bytes())));
        TAKEN.right("a whole of 127", wholeUnder(Encoding.bytes(48, 127), wholeOf(127)));
        TAKEN.wrong("a whole of 127 with two bytes", wholeUnder(Encoding.bytes(48, 129, 127), wholeOf(127)));
        TAKEN.right("a body of 127", bodyUnder(Encoding.bytes(48, 127), bodyOf(127)));
        TAKEN.wrong("a body of 127 with two bytes", bodyUnder(Encoding.bytes(48, 129, 127), bodyOf(127)));
    }

    /** "the byte 129 and then one byte if it is 128 .. 255". */
    private static void lengthsFrom128TakeTwoBytes() {
        for (int length = 128; length <= 131; length++) {
            int[] right = Encoding.bytes(48, 129, length);
            int[] wrong = Encoding.bytes(48, length);
            TAKEN.right("a whole of " + length, wholeUnder(right, wholeOf(length)));
            TAKEN.wrong("a whole of " + length + " with one byte", wholeUnder(wrong, wholeOf(length)));
            TAKEN.right("a body of " + length, bodyUnder(right, bodyOf(length)));
            TAKEN.wrong("a body of " + length + " with one byte", bodyUnder(wrong, bodyOf(length)));
        }
        DUE.answer("bytes of the fullest one", fullest().bytes().length, 160);
        TAKEN.right("a whole of 157", wholeUnder(Encoding.bytes(48, 129, 157), fullest()));
    }

    /** A length is that of the content, which must be there: 129 and 158 to 255 are more than the buffer holds. */
    private static void greatLengthsGoBeyondTheBuffer() {
        for (int length = 0; length < 256; length++) {
            TAKEN.when(length == 157, "the length 129, " + length + " of a full buffer",
                wholeUnder(Encoding.bytes(48, 129, length), fullest()));
        }
        TAKEN.wrong("a tag without a length", Encoding.bytes(48));
        TAKEN.wrong("half a length", Encoding.bytes(48, 129));
        TAKEN.wrong("a length without a content", Encoding.bytes(48, 129, 128));
        TAKEN.wrong("the length 1 without a content", Encoding.bytes(48, 1));
    }

    /** "Every other beginning of a length is wrong." */
    private static void otherBeginningsOfALengthAreWrong() {
        int[] bytes = rich().bytes();
        int[] content = slice(bytes, 2);
        for (int first = 128; first < 256; first++) {
            int[] changed = bytes.clone();
            changed[1] = first;
            TAKEN.wrong("the length " + first, changed);
            TAKEN.wrong("the length " + first + " and one byte",
                Encoding.join(Encoding.bytes(48, first, content.length), content));
            TAKEN.wrong("the length " + first + " and two bytes",
                Encoding.join(Encoding.bytes(48, first, 0, content.length), content));
            TAKEN.wrong("the length " + first + " and four bytes",
                Encoding.join(Encoding.bytes(48, first, 0, 0, 0, content.length), content));
        }
        int[] longOnes = filled(70).bytes();
        DUE.answer("a length of two bytes", longOnes[1], 129);
        for (int first = 0; first < 256; first++) {
            if (first != 129) {
                int[] changed = longOnes.clone();
                changed[1] = first;
                TAKEN.wrong("the length " + first + " instead of 129", changed);
            }
        }
    }

    /** The same sentence, in each element of a certificate. */
    private static void otherBeginningsAreWrongInEveryElement() {
        Tree whole = Tree.of(rich().bytes());
        for (Tree one : whole.all()) {
            int[] content = one.content();
            int size = content.length;
            int[][] heads = {{128}, {129, size}, {130, 0, size}, {131, 0, 0, size}, {132, 0, 0, 0, size}, {255, size}, {size | 128}};
            for (int[] head : heads) {
                int[] odd = Encoding.join(Encoding.bytes(one.tag), head, content);
                TAKEN.wrong("the length " + java.util.Arrays.toString(head) + " of " + one.told(), whole.with(one, odd));
            }
            int[] endless = Encoding.join(Encoding.bytes(one.tag, 128), content, Encoding.bytes(0, 0));
            TAKEN.wrong("a length without end of " + one.told(), whole.with(one, endless));
        }
    }

    /** "a CONTENT of so many bytes": no element goes beyond the one that it stands in. */
    private static void contentsEndWhereTheirElementEnds() {
        Tree whole = Tree.of(rich().bytes());
        for (Tree one : whole.all()) {
            int[] right = one.bytes();
            int[] longer = right.clone();
            longer[1]++;
            TAKEN.wrong("one length too great of " + one.told(), whole.with(one, longer));
            if (right[1] > 0) {
                int[] shorter = right.clone();
                shorter[1]--;
                TAKEN.wrong("one length too small of " + one.told(), whole.with(one, shorter));
            }
            int[] greatest = right.clone();
            greatest[1] = 127;
            TAKEN.wrong("the length 127 of " + one.told(), whole.with(one, greatest));
        }
    }

    /** The same where the buffer is full, so that there is no byte at all behind what is cut off. */
    private static void nothingIsReadBehindAFullBuffer() {
        int[] number = Encoding.integer(0);
        int[][] extensions = {
            Encoding.extension(1, true, Encoding.sequence(Encoding.TRUE, Encoding.integer(128))),
            Encoding.extension(2, true, Encoding.bits(0)),
            Encoding.extension(3, false, Encoding.sequence(Encoding.names(160, "a.b"), Encoding.names(161, "c"))),
            Encoding.extension(128, true, Encoding.repeated(129, 9)),
        };
        for (int[] extension : extensions) {
            Tree tree = Tree.of(extension);
            for (int size = 0; size < tree.content().length; size++) {
                String told = "cut at " + size + " of " + java.util.Arrays.toString(extension);
                int[] rough = Encoding.join(Encoding.bytes(48, size), java.util.Arrays.copyOf(tree.content(), size));
                TAKEN.wrong(told, endingAt160(rough, Encoding.bytes()));
                TAKEN.wrong(told + ", the lengths follow", endingAt160(tree.cut(size), Encoding.bytes()));
            }
            TAKEN.wrong("no signature", endingAt160(extension, Encoding.bytes()));
            TAKEN.right("a signature", endingAt160(extension, number));
        }
        int[][] signatures = {{2}, {2, 0}, {2, 1}, {2, 4}, {2, 127}, {2, 128}, {2, 129}, {2, 129, 128}, {2, 2, 1}, {2, 4, 1, 2, 3}};
        for (int[] signature : signatures) {
            TAKEN.wrong("the signature " + java.util.Arrays.toString(signature), endingAt160(extensions[0], signature));
        }
    }

    /** 160 bytes, in which the extension is the last thing in the body and the signature the last of all. */
    private static int[] endingAt160(int[] extension, int[] signature) {
        String name = "abcdefgh.abcdefgh.abcdefgh.abcdefgh";
        for (int filling = 0; filling <= 40; filling++) {
            Draft d = new Draft().names(name, name).with(
                Encoding.extension(10, false, Encoding.repeated(0, Math.min(20, filling))),
                Encoding.extension(11, false, Encoding.repeated(0, Math.max(0, filling - 20))), extension);
            d.signature = signature;
            if (d.bytes().length == 160) {
                return d.bytes();
            }
        }
        throw new IllegalStateException("160 bytes can't be reached");
    }

    /** "the content of an element is exactly what is said, nothing before, between or behind it". */
    private static void nothingStandsBeforeBetweenOrBehind() {
        int[][] odd = {{0}, {255}, {5, 0}, {4, 0}, {2, 1, 0}, {1, 1, 254}, {48, 0}, {163, 0}};
        int[] bytes = rich().bytes();
        Tree whole = Tree.of(bytes);
        for (int[] more : odd) {
            String told = java.util.Arrays.toString(more);
            TAKEN.wrong(told + " before all", Encoding.join(more, bytes));
            TAKEN.wrong(told + " behind all", Encoding.join(bytes, more));
            for (Tree one : whole.all()) {
                for (int k = 0; one.hasParts() && k <= one.parts.size(); k++) {
                    boolean isName = (one.tag == 160 || one.tag == 161) && more[0] == 48;
                    TAKEN.when(isName, told + " before part " + k + " of " + one.told(), whole.withInside(one, k, more));
                }
            }
        }
        TAKEN.wrong("two bytes in TRUE", new Draft().with(
            Encoding.sequence(Encoding.integer(9), Encoding.bytes(1, 2, 255, 255), Encoding.element(4))));
    }

    /** Each thing is said once; only labels and the names of a list may be the same ones again. */
    private static void nothingStandsTwice() {
        twice(new Draft().with(Encoding.extension(9, true, Encoding.bytes(1))));
        twice(rich());
    }

    /** Where two do not fit into the buffer, the smaller one of the two certificates tells. */
    private static void twice(Draft d) {
        Tree whole = Tree.of(d.bytes());
        for (Tree one : whole.all()) {
            int[] bytes = whole.with(one, Encoding.join(one.bytes(), one.bytes()));
            if (one.parent != null && bytes.length <= 160) {
                boolean mayBe = one.tag == 19 || one.parent.tag == 160 || one.parent.tag == 161;
                TAKEN.when(mayBe, "twice: " + one.told(), bytes);
            }
        }
    }

    /** "an element that is said to be there perhaps is there or is not"; every other one is there. */
    private static void whatIsPerhapsThereMayBeAbsent() {
        Tree whole = Tree.of(rich().bytes());
        int perhaps = 0;
        for (Tree one : whole.all()) {
            if (one.parent != null) {
                boolean mayBe = mayBeAbsent(one);
                TAKEN.when(mayBe, "left out: " + one.told(), whole.with(one, Encoding.bytes()));
                perhaps += mayBe ? 1 : 0;
            }
        }
        // FOURTH, 4 extensions, 2 TRUEs that tell critical ones, REACH, FIRST, SECOND, 5 labels
        DUE.answer("things that may be absent", perhaps, 15);
        Draft noReach = new Draft().with(Encoding.authority());
        TAKEN.right("an authority without a reach", noReach);
        TAKEN.right("no authority", new Draft().with(Encoding.extension(1, false, Encoding.sequence())));
    }

    private static boolean mayBeAbsent(Tree one) {
        Tree around = one.parent;
        boolean isExtension = around.parent != null && around.parent.tag == 163;
        boolean isCritical = one.tag == 1 && around.parts.get(0).tag == 2;
        boolean isReach = one.tag == 2 && around.parts.get(0).tag == 1;
        return one.tag == 163 || one.tag == 19 || one.tag == 160 || one.tag == 161 || isExtension || isCritical || isReach;
    }

    /** "tag 2", "tag 1", "tag 19", "tag 4", "tag 3", "tag 48", "tags 160, 161 and 163": no other one will do. */
    private static void everyTagIsTheOneThatIsSaid() {
        Tree whole = Tree.of(rich().bytes());
        for (Tree one : whole.all()) {
            int[] bytes = one.bytes();
            for (int tag = 0; tag < 256; tag++) {
                if (tag != one.tag) {
                    bytes[0] = tag;
                    TAKEN.wrong("tag " + tag + " for " + one.told(), whole.with(one, bytes.clone()));
                }
            }
        }
    }

    /** The INTEGERs of a draft that may be any number: serial, FROM, TO, signature and REACH. */
    private static Draft numberAt(int place, int[] number) {
        Draft d = new Draft();
        int[] one = Encoding.integer(1);
        switch (place) {
            case 0 -> d.serial = number;
            case 1 -> d.times = Encoding.sequence(number, one);
            case 2 -> d.times = Encoding.sequence(one, number);
            case 3 -> d.signature = number;
            case 4 -> d.with(Encoding.extension(1, false, Encoding.sequence(Encoding.TRUE, number)));
            case 5 -> d.key = Encoding.sequence(number, one);
            case 6 -> d.key = Encoding.sequence(Encoding.integer(2), number);
            default -> d.with(Encoding.sequence(number, Encoding.element(4)));
        }
        return d;
    }

    /** The places where any number may stand, if it is a right one; at the three behind them its range is narrower. */
    private static final int FREE_PLACES = 5;
    private static final int ALL_PLACES = 8;

    private static void integer(boolean isRight, int... content) {
        int[] number = Encoding.element(2, content);
        String told = "INTEGER " + java.util.Arrays.toString(content) + " at place ";
        for (int place = 0; place < (isRight ? FREE_PLACES : ALL_PLACES); place++) {
            TAKEN.when(isRight, told + place, numberAt(place, number));
        }
    }

    /** INTEGER: "a number .. as 1 to 4 bytes, the highest first". */
    private static void integersHave1To4Bytes() {
        integer(false);
        integer(true, 1);
        integer(true, 1, 2);
        integer(true, 1, 2, 3);
        integer(true, 1, 2, 3, 4);
        integer(false, 1, 2, 3, 4, 5);
        integer(false, 0, 128, 0, 0, 0);
        integer(false, 0, 255, 255, 255, 255);
        integer(false, 0, 0, 0, 0, 1);
        CertificatePath x = new CertificatePath();
        numberAt(0, Encoding.element(2, Encoding.bytes(1, 2, 3, 4))).keptBy(x);
        DUE.answer("the highest first", x.field(0, 0), 0x01020304);
    }

    /** INTEGER: "the first one less than 128". */
    private static void integersBeginBelow128() {
        integer(true, 127);
        integer(false, 128);
        integer(false, 255);
        integer(true, 127, 255);
        integer(false, 128, 0);
        integer(false, 255, 255);
        integer(true, 127, 0, 0);
        integer(false, 128, 0, 0);
        integer(false, 255, 255, 255);
        integer(true, 127, 255, 255, 255);
        integer(false, 128, 0, 0, 0);
        integer(false, 255, 255, 255, 255);
    }

    /** INTEGER: "if there are more than one and the first one is 0, the second one is 128 or more". */
    private static void integersAreNotLongerThanNeeded() {
        integer(true, 0);
        integer(false, 0, 0);
        integer(false, 0, 1);
        integer(false, 0, 127);
        integer(true, 0, 128);
        integer(true, 0, 255);
        integer(true, 1, 0);
        integer(true, 1, 127);
        integer(false, 0, 127, 255);
        integer(false, 0, 0, 128);
        integer(true, 0, 128, 0);
        integer(true, 1, 0, 0);
        integer(false, 0, 127, 255, 255);
        integer(false, 0, 0, 128, 0);
        integer(false, 0, 0, 0, 128);
        integer(true, 0, 128, 0, 0);
        integer(true, 1, 0, 0, 0);
    }

    /** INTEGER: "a number 0 .. 2147483647", of which each has one encoding. */
    private static void integersReachFrom0ToTheGreatest() {
        long[] values = {0, 1, 127, 128, 255, 256, 32767, 32768, 65535, 65536, 8388607, 8388608, 16777215, 16777216,
            2147483646, 2147483647};
        int[] sizes = {1, 1, 1, 2, 2, 2, 2, 3, 3, 3, 3, 4, 4, 4, 4, 4};
        int[] fields = {0, 1, 2, 5, 8};
        for (int n = 0; n < values.length; n++) {
            int[] number = Encoding.integer(values[n]);
            DUE.answer("bytes of " + values[n], number.length, 2 + sizes[n]);
            for (int place = 0; place < FREE_PLACES; place++) {
                TAKEN.right(values[n] + " at place " + place, numberAt(place, number));
                CertificatePath x = new CertificatePath();
                numberAt(place, number).keptBy(x);
                DUE.answer(values[n] + ": field(0, " + fields[place] + ")", x.field(0, fields[place]), values[n]);
            }
        }
        integer(false, 0, 128, 0, 0, 0);
    }

    /** "TRUE, tag 1: the byte 255." */
    private static void trueIsTheByte255() {
        int[][] contents = new int[256 + 3][];
        for (int b = 0; b < 256; b++) {
            contents[b] = Encoding.bytes(b);
        }
        contents[256] = Encoding.bytes();
        contents[257] = Encoding.bytes(255, 255);
        contents[258] = Encoding.bytes(0, 255);
        for (int[] content : contents) {
            boolean isRight = content.length == 1 && content[0] == 255;
            int[] truth = Encoding.element(1, content);
            String told = "TRUE " + java.util.Arrays.toString(content);
            TAKEN.when(isRight, told + " for critical",
                new Draft().with(Encoding.sequence(Encoding.integer(9), truth, Encoding.element(4))));
            TAKEN.when(isRight, told + " for an authority",
                new Draft().with(Encoding.extension(1, false, Encoding.sequence(truth))));
            TAKEN.when(isRight, told + " for an authority with a reach",
                new Draft().with(Encoding.extension(1, false, Encoding.sequence(truth, Encoding.integer(0)))));
        }
    }

    /** A draft with a name at one of the places where names stand. */
    private static Draft nameAt(int place, int[] name) {
        Draft d = new Draft();
        switch (place) {
            case 0 -> d.issuer = name;
            case 1 -> d.subject = name;
            case 2 -> d.with(Encoding.extension(3, false, Encoding.sequence(Encoding.element(160, name))));
            default -> d.with(Encoding.extension(3, false, Encoding.sequence(Encoding.element(161, name))));
        }
        return d;
    }

    private static void name(boolean isRight, String what, int[]... labels) {
        for (int place = 0; place < 4; place++) {
            TAKEN.when(isRight, what + " at place " + place, nameAt(place, Encoding.sequence(labels)));
        }
    }

    /** LABEL: "1 to 8 letters". */
    private static void labelsHave1To8Letters() {
        int[] a = Encoding.label("a");
        for (int size = 0; size <= 10; size++) {
            int[] label = Encoding.element(19, Encoding.repeated('z', size));
            boolean isRight = size >= 1 && size <= 8;
            name(isRight, "a label of " + size, label);
            name(isRight, "a label of " + size + " behind another", a, label);
            name(isRight, "a label of " + size + " before another", label, a);
        }
    }

    /** LABEL: "letters (bytes 97 .. 122)". */
    private static void lettersAre97To122() {
        for (int b = 0; b < 256; b++) {
            boolean isRight = b >= 97 && b <= 122;
            name(isRight, "the letter " + b, Encoding.element(19, Encoding.bytes(b)));
            name(isRight, "the letter " + b + " first", Encoding.element(19, Encoding.bytes(b, 97)));
            name(isRight, "the letter " + b + " last", Encoding.element(19, Encoding.bytes(97, 97, 97, 97, 97, 97, 97, b)));
        }
    }

    /** "OCTETS, tag 4": they may be empty where any bytes may stand, and must not be where something is said. */
    private static void octetsMayBeEmpty() {
        for (int number = 0; number < 256; number++) {
            boolean isRight = number < 1 || number > 3;
            TAKEN.when(isRight, "empty octets of " + number, new Draft().with(Encoding.extension(number, false, Encoding.bytes())));
        }
    }

    private static Draft usage(int... content) {
        return new Draft().with(Encoding.extension(2, false, Encoding.element(3, content)));
    }

    /** BITS: "the empty set is the byte 0". */
    private static void theEmptySetIsTheByte0() {
        TAKEN.wrong("BITS without a byte", usage());
        for (int b = 0; b < 256; b++) {
            TAKEN.when(b == 0, "BITS of the one byte " + b, usage(b));
            TAKEN.wrong("BITS of " + b + " and 0", usage(b, 0));
        }
    }

    /** BITS: "how many bits there are in the second byte behind its lowest bit set, and the second byte". */
    private static void otherSetsAreTwoBytes() {
        for (int second = 1; second < 256; second++) {
            for (int first = 0; first < 12; first++) {
                boolean isRight = Integer.numberOfTrailingZeros(second) == first;
                TAKEN.when(isRight, "BITS of " + first + " and " + second, usage(first, second));
            }
            TAKEN.wrong("BITS of 255 and " + second, usage(255, second));
            TAKEN.wrong("BITS of a third byte 0 behind " + second, usage(Integer.numberOfTrailingZeros(second), second, 0));
        }
        TAKEN.wrong("BITS of three bytes", usage(0, 1, 1));
        TAKEN.wrong("BITS of nine numbers", usage(7, 255, 128));
    }

    /** BITS: "a set of numbers 0 .. 7", "in which the bit 7 - k is set if k is in the set". */
    private static void everySetIsRead() {
        for (int second = 1; second < 256; second++) {
            CertificatePath x = new CertificatePath();
            usage(Integer.numberOfTrailingZeros(second), second).keptBy(x);
            int sum = 0;
            for (int k = 0; k <= 7; k++) {
                sum += (second >> 7 - k & 1) << k;
            }
            DUE.answer("the set of the byte " + second, x.field(0, 9), sum);
        }
    }

    /** "NAME: a SEQUENCE of 0 to 4 LABELs." */
    private static void namesHave0To4Labels() {
        for (int count = 0; count <= 6; count++) {
            int[][] labels = new int[count][];
            for (int k = 0; k < count; k++) {
                labels[k] = Encoding.label(k % 2 == 0 ? "a" : "bc");
            }
            name(count <= 4, "a name of " + count + " labels", labels);
        }
        int[] longest = Encoding.label("abcdefgh");
        name(true, "a name of four labels of eight letters", longest, longest, longest, longest);
    }
}
