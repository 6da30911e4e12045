import java.math.BigInteger;

/**
 * Promise 16 and the terms that it speaks of, at their boundaries: "signed", checking, its conditions 1 to 9.
 * Each test stands under the words of the document that it holds the program to.
 */
public final class CheckEdgeTest {
    private static final Due DUE = new Due();
    private static final int TIME = Chain.TIME;
    private static final int LEAST = Integer.MIN_VALUE;
    private static final int MOST = Integer.MAX_VALUE;

    public static void main(String[] args) {
        checkNeedsAnAnchor();
        checkNeedsAPath();
        checkNeedsUsage0To255();
        noneComesBeforeAnyCondition();
        zeroIfAllIsAsSaid();
        theAnswerTellsPlaceAndCondition();
        theFirstConditionIsTold();
        theFirstPlaceIsTold();
        theSignatureIsLessThanTheModulus();
        theRestOfThePower();
        theRestOfTheHash();
        leastAndGreatestKeys();
        theKeyIsFirstTheAnchors();
        timesAtTheirBounds();
        anyTimeMayBeAsked();
        theIssuerIsTheHolder();
        noListsAtFirst();
        withinSomeNameOfAList();
        withinEachList();
        withinNoExcludedName();
        selfIssuedOnesInTheMiddle();
        selfIssuedOnesAtTheEnd();
        boundsBindThoseBehind();
        boundsWithoutPermittedNames();
        criticalNumbers();
        authorityIsNeededBeforeTheLast();
        restIsGreaterThan0();
        restIsFirstTheNumberOfCertificates();
        reachLessThanTheRest();
        selfIssuedOnesTakeNoRest();
        selfIssuedOnesReach();
        usageOfThoseBeforeTheLast();
        usageOfTheLast();
        onlyKeyAndSubjectOfTheAnchor();
        theAnchorInThePath();
        checkChangesNothing();
        DUE.end();
    }

    private static Chain chain(String anchorName) {
        return new Chain(DUE, anchorName);
    }

    private static Draft from(String issuer, String subject) {
        return new Draft().names(issuer, subject);
    }

    private static Draft holder(String issuer, String subject) {
        return from(issuer, subject).with(Encoding.authority());
    }

    private static Draft reaching(String issuer, String subject, int reach) {
        return from(issuer, subject).with(Encoding.authority(reach));
    }

    /** A path from a by b, c, .. in which the certificate at each place has the name of its place. */
    private static Chain row(int size) {
        Chain c = chain("a");
        for (int p = 0; p < size; p++) {
            c.next(holder(named(p), named(p + 1)));
        }
        return c;
    }

    private static String named(int k) {
        return String.valueOf((char) ('a' + k));
    }

    /** "NONE if there is no certificate anchor". */
    private static void checkNeedsAnAnchor() {
        int[] never = {-1, -2, 8, 9, LEAST, MOST};
        for (int anchor : never) {
            DUE.answer("check(" + anchor + ", 50, 0) of eight", Sight.full().check(anchor, TIME, 0), -1);
        }
        DUE.answer("check(3, 50, 0) of three", Sight.some().check(3, TIME, 0), -1);
        DUE.answer("check(2, 50, 0) of three", Sight.some().check(2, TIME, 0), 0);
        DUE.answer("check(7, 50, 0) of eight", Sight.full().check(7, TIME, 0), 0);
        DUE.answer("check(0, 50, 0) of none", new CertificatePath().check(0, TIME, 0), -1);
    }

    /** "NONE if .. the path is empty". */
    private static void checkNeedsAPath() {
        CertificatePath x = Sight.state(1, new int[] {}, new int[] {});
        DUE.answer("an empty path", x.check(0, TIME, 0), -1);
        x.link(0);
        DUE.answer("a path of one", x.check(0, TIME, 0), 0);
        x.unlink();
        DUE.answer("an emptied path", x.check(0, TIME, 0), -1);
    }

    /** "NONE if .. usage is not 0 .. 255". */
    private static void checkNeedsUsage0To255() {
        int[] wrong = {-1, -256, 256, 257, 512, 65536, LEAST, MOST};
        for (int usage : wrong) {
            row(1).due("a wrong usage", TIME, usage, -1);
            row(3).due("a wrong usage", TIME, usage, -1);
        }
        for (int usage = 0; usage <= 255; usage++) {
            row(1).due("a right usage", TIME, usage, 0);
        }
    }

    /** NONE is the answer, whatever is broken in the path. */
    private static void noneComesBeforeAnyCondition() {
        Chain c = chain("a").next(from("z", "b").times(9, 8)).next(from("z", "c"));
        c.due("a broken path", TIME, 0, 2);
        c.due("a broken path and a wrong usage", TIME, 256, -1);
        c.due("a broken path and a wrong usage", TIME, -1, -1);
        DUE.answer("a broken path and a wrong anchor", c.x.check(3, TIME, 0), -1);
    }

    /** "Answers 0 if all is as said", for each size that a path may have. */
    private static void zeroIfAllIsAsSaid() {
        for (int size = 1; size <= 6; size++) {
            row(size).due("a path of " + size, 0);
        }
    }

    /** "16 * p + c .. p being the place (from 0) in the path". */
    private static void theAnswerTellsPlaceAndCondition() {
        for (int size = 1; size <= 6; size++) {
            for (int place = 0; place < size; place++) {
                for (int condition = 1; condition <= 9; condition++) {
                    boolean isLast = place == size - 1;
                    boolean never = isLast ? condition >= 6 && condition <= 8 : condition == 9;
                    if (!never && (place > 0 || condition != 4 && condition != 7)) {
                        broken(size, place, condition);
                    }
                }
            }
        }
    }

    /** A path in which one condition is broken at one place, and all else is as said. */
    private static void broken(int size, int place, int condition) {
        Chain c = chain("a");
        for (int p = 0; p < size; p++) {
            boolean isHere = p == place;
            boolean isBefore = p == place - 1;
            Draft d = from(isHere && condition == 3 ? "zz" : named(p), named(p + 1));
            if (isHere && condition == 2) {
                d.times(TIME + 1, MOST);
            }
            if (isHere && condition == 5) {
                d.with(Encoding.extension(9, true, Encoding.bytes()));
            }
            if (!isHere || condition != 6) {
                d.with(isBefore && condition == 7 ? Encoding.authority(0) : Encoding.authority());
            }
            if (isHere && condition == 8) {
                d.with(Encoding.usage(0, 1, 2, 3, 4, 6, 7));
            }
            if (isHere && condition == 9) {
                d.with(Encoding.usage(5));
            }
            if (isBefore && condition == 4) {
                d.with(Encoding.excluded(named(p + 2)));
            }
            if (isHere && condition == 1) {
                c.nextNotSigned(d);
            } else {
                c.next(d);
            }
        }
        c.due("condition " + condition + " at place " + place + " of " + size, TIME, condition == 9 ? 1 : 0, 16 * place + condition);
    }

    /** "the first condition c that does not hold", "in this order". */
    private static void theFirstConditionIsTold() {
        for (int first = 1; first <= 9; first++) {
            for (int second = first + 1; second <= 9; second++) {
                boolean asLast = first == 9 || second == 9;
                boolean inTheMiddle = first >= 6 && first <= 8 || second >= 6 && second <= 8;
                if (!asLast || !inTheMiddle) {
                    bothBroken(first, second, asLast);
                }
            }
        }
    }

    private static void bothBroken(int first, int second, boolean asLast) {
        boolean[] broken = new boolean[10];
        broken[first] = true;
        broken[second] = true;
        Draft before = from("a", "b").with(broken[7] ? Encoding.authority(0) : Encoding.authority());
        if (broken[4]) {
            before.with(Encoding.permitted("never"));
        }
        Draft d = from(broken[3] ? "zz" : "b", "c");
        if (broken[2]) {
            d.times(0, TIME - 1);
        }
        if (broken[5]) {
            d.with(Encoding.extension(9, true, Encoding.bytes()));
        }
        if (!broken[6]) {
            d.with(Encoding.authority());
        }
        if (broken[8] || broken[9]) {
            d.with(Encoding.usage(1));
        }
        Chain c = chain("a").next(before);
        if (broken[1]) {
            c.nextNotSigned(d);
        } else {
            c.next(d);
        }
        if (!asLast) {
            c.next(from("c", "never"));
        }
        c.due("conditions " + first + " and " + second, TIME, asLast ? 1 : 0, 16 + first);
    }

    /** "The certificates are gone through from the first to the last": a later place is told only if no earlier one is. */
    private static void theFirstPlaceIsTold() {
        Chain c = chain("a").next(from("a", "b")).nextNotSigned(holder("b", "c")).next(from("z", "d"));
        c.due("6 at 0, 1 at 1, 3 at 2", 6);
        c = chain("a").next(holder("a", "b")).next(holder("b", "c").with(Encoding.usage())).nextNotSigned(from("c", "d"));
        c.due("8 at 1, 1 at 2", 16 + 8);
        c = chain("a").next(holder("a", "b")).next(holder("b", "c")).nextNotSigned(from("z", "d").times(9, 8));
        c.due("1, 2 and 3 at 2", 32 + 1);
    }

    private static int signed(long modulus, long exponent, Draft d) {
        CertificatePath x = new CertificatePath();
        new Draft().names("q", "a").key(modulus, exponent).keptBy(x);
        x.link(d.keptBy(x));
        return x.check(0, TIME, 0);
    }

    /** SIGNED: "its signature is less than the modulus". */
    private static void theSignatureIsLessThanTheModulus() {
        int[] moduli = {2, 3, 7, 101, 256, 65537, 1000003};
        for (int modulus : moduli) {
            int rest = from("a", "b").bodyHash() % modulus;
            DUE.answer("the rest as signature by " + modulus, signed(modulus, 1, from("a", "b").signature(rest)), 0);
            DUE.answer("the rest and " + modulus + " more", signed(modulus, 1, from("a", "b").signature(rest + modulus)), 1);
            Draft zero = withRest(modulus, 0);
            DUE.answer("the signature 0 by " + modulus, signed(modulus, 1, zero.signature(0)), 0);
            DUE.answer("the signature " + modulus, signed(modulus, 1, zero.signature(modulus)), 1);
            Draft most = withRest(modulus, modulus - 1);
            DUE.answer("the signature " + (modulus - 1), signed(modulus, 1, most.signature(modulus - 1)), 0);
            DUE.answer("the greatest signature by " + modulus, signed(modulus, 1, most.signature(MOST)), 1);
        }
        DUE.answer("signature and modulus the greatest", signed(MOST, 1, from("a", "b").signature(MOST)), 1);
    }

    /** A certificate from a to b whose hash leaves that rest. */
    private static Draft withRest(int modulus, int rest) {
        for (int n = 0; n < 1 << 24; n++) {
            Draft d = from("a", "b").with(Encoding.extension(9, false, Encoding.bytes(n & 255, n >> 8 & 255, n >> 16)));
            if (d.bodyHash() % modulus == rest) {
                return d;
            }
        }
        throw new IllegalStateException("no rest " + rest + " by " + modulus);
    }

    /** SIGNED: "the rest of its signature to the power of the exponent, divided by the modulus". */
    private static void theRestOfThePower() {
        int[] exponents = {1, 2, 3, 4, 255, 256, 511, 512, 513, 999, 1000};
        int modulus = 65537;
        for (int exponent : exponents) {
            BigInteger power = BigInteger.valueOf(3).modPow(BigInteger.valueOf(exponent), BigInteger.valueOf(modulus));
            Draft d = withRest(modulus, power.intValue()).signature(3);
            DUE.answer("3 to the power of " + exponent, signed(modulus, exponent, d), 0);
            DUE.answer("3 to the power of one less", exponent == 1 ? 1 : signed(modulus, exponent - 1, d), 1);
            DUE.answer("3 to the power of one more", exponent == 1000 ? 1 : signed(modulus, exponent + 1, d), 1);
            DUE.answer("4 to the power of " + exponent, signed(modulus, exponent, d.signature(4)), 1);
        }
        // The power of 0 is 0, that of 1 is 1, whatever the exponent is.
        DUE.answer("0 to the power of 1000", signed(7, 1000, withRest(7, 0).signature(0)), 0);
        DUE.answer("0 where 1 is due", signed(7, 1000, withRest(7, 1).signature(0)), 1);
        DUE.answer("1 to the power of 1000", signed(7, 1000, withRest(7, 1).signature(1)), 0);
        DUE.answer("1 where 0 is due", signed(7, 1000, withRest(7, 0).signature(1)), 1);
    }

    /** SIGNED: the rest "of the hash of its body .. divided by the modulus". */
    private static void theRestOfTheHash() {
        Draft d = from("a", "b");
        int hash = d.bodyHash();
        DUE.answer("a modulus one above the hash", signed(hash + 1, 1, d.signature(hash)), 0);
        DUE.answer("the hash as modulus", signed(hash, 1, d.signature(0)), 0);
        DUE.answer("the hash as modulus, signature 1", signed(hash, 1, d.signature(1)), 1);
        DUE.answer("a modulus one below the hash", signed(hash - 1, 1, d.signature(1)), 0);
        DUE.answer("a modulus far above the hash", signed(MOST, 1, d.signature(hash)), 0);
        DUE.answer("the hash of the greatest rest", signed(1000003, 1, withRest(1000003, 1000002).signature(1000002)), 0);
        DUE.answer("the hash 0", signed(1000003, 1, withRest(1000003, 0).signature(0)), 0);
    }

    /** MODULUS 2 and 2147483647, EXPONENT 1 and 1000. */
    private static void leastAndGreatestKeys() {
        int[] exponents = {1, 2, 999, 1000};
        for (int exponent : exponents) {
            for (int rest = 0; rest < 2; rest++) {
                for (int signature = 0; signature < 4; signature++) {
                    DUE.answer("modulus 2, rest " + rest + ", signature " + signature,
                        signed(2, exponent, withRest(2, rest).signature(signature)), signature == rest ? 0 : 1);
                }
            }
        }
        BigInteger modulus = BigInteger.valueOf(MOST);
        Draft d = from("a", "b");
        BigInteger hash = BigInteger.valueOf(d.bodyHash());
        for (int exponent = 1; exponent <= 1000; exponent++) {
            BigInteger e = BigInteger.valueOf(exponent);
            BigInteger order = modulus.subtract(BigInteger.ONE);
            if (e.gcd(order).equals(BigInteger.ONE)) {
                int signature = hash.modPow(e.modInverse(order), modulus).intValueExact();
                DUE.answer("the greatest modulus, exponent " + exponent, signed(MOST, exponent, d.signature(signature)), 0);
                DUE.answer("the next signature, exponent " + exponent, signed(MOST, exponent, d.signature(signature - 1)), 1);
            }
        }
    }

    /** Condition 1, and "the KEY is at first modulus and exponent of the anchor", "the KEY becomes its modulus and exponent". */
    private static void theKeyIsFirstTheAnchors() {
        CertificatePath x = new CertificatePath();
        new Draft().names("q", "a").key(101, 3).keptBy(x);
        new Draft().names("q", "a").key(107, 3).keptBy(x);
        Draft d = holder("a", "b").key(1009, 1);
        while (signedBy(d.signedBy(101, 3), 107)) {
            d.with(Encoding.extension(9 + d.extensions.size(), false, Encoding.bytes()));
        }
        x.link(d.keptBy(x));
        DUE.answer("the anchor's key", x.check(0, TIME, 0), 0);
        DUE.answer("another anchor's key", x.check(1, TIME, 0), 1);
        Draft last = from("b", "c");
        int hash = last.bodyHash();
        x.link(last.signature(hash % 1009).keptBy(x));
        DUE.answer("the key of the one before", x.check(0, TIME, 0), 0);
        x.unlink();
        x.link(last.signedBy(101, 3).keptBy(x));
        DUE.answer("the anchor's key behind the first", x.check(0, TIME, 0), 16 + 1);
    }

    private static boolean signedBy(Draft d, long modulus) {
        int number = d.signature[2];
        return number < modulus && Draft.power(number, 3, modulus) == d.bodyHash() % modulus;
    }

    /** "2 FROM <= time <= TO." */
    private static void timesAtTheirBounds() {
        Chain c = chain("a").next(from("a", "b").times(10, 20));
        c.due("one before FROM", 9, 0, 2);
        c.due("FROM", 10, 0, 0);
        c.due("one behind FROM", 11, 0, 0);
        c.due("one before TO", 19, 0, 0);
        c.due("TO", 20, 0, 0);
        c.due("one behind TO", 21, 0, 2);
        c = chain("a").next(from("a", "b").times(15, 15));
        c.due("one before the one time", 14, 0, 2);
        c.due("the one time", 15, 0, 0);
        c.due("one behind the one time", 16, 0, 2);
        c = chain("a").next(from("a", "b").times(16, 15));
        c.due("TO, which is before FROM", 15, 0, 2);
        c.due("FROM, which is behind TO", 16, 0, 2);
    }

    /** "a time (any number)". */
    private static void anyTimeMayBeAsked() {
        Chain c = chain("a").next(from("a", "b").times(0, MOST));
        int[] before = {LEAST, LEAST + 1, -2, -1};
        for (int time : before) {
            c.due("a time below 0", time, 0, 2);
        }
        int[] within = {0, 1, MOST - 1, MOST};
        for (int time : within) {
            c.due("a time from 0 on", time, 0, 0);
        }
        c = chain("a").next(from("a", "b").times(MOST, MOST));
        c.due("one before the greatest time", MOST - 1, 0, 2);
        c.due("the greatest time", MOST, 0, 0);
        c = chain("a").next(from("a", "b").times(0, 0));
        c.due("the time 0", 0, 0, 0);
        c.due("the time 1", 1, 0, 2);
        c.due("the least time", LEAST, 0, 2);
    }

    /** "3 Its issuer is the HOLDER": the same name, not one within it. */
    private static void theIssuerIsTheHolder() {
        String[] names = {"", "a", "a.b", "a.b.c", "a.b.c.d", "a.b.c.e", "b", "ab", "abcdefgh", "abcdefgi"};
        for (String holder : names) {
            for (String issuer : names) {
                int want = holder.equals(issuer) ? 0 : 3;
                chain(holder).next(from(issuer, "z")).due("holder " + holder + ", issuer " + issuer, want);
                chain("x").next(holder("x", holder)).next(from(issuer, "z"))
                    .due("behind one, holder " + holder + ", issuer " + issuer, want == 0 ? 0 : 16 + want);
            }
        }
    }

    /** "no name is excluded, and there are no lists of permitted names" at first. */
    private static void noListsAtFirst() {
        String[] names = {"", "b", "a.b.c.d"};
        for (String name : names) {
            chain("a").next(from("a", name)).due("any subject, here " + name, 0);
            chain("a").next(holder("a", name)).next(from(name, name)).due("any subject without BOUNDS, here " + name, 0);
        }
    }

    private static void last(String what, int[] bounds, String subject, boolean isRight) {
        chain("a").next(holder("a", "b").with(bounds)).next(from("b", subject))
            .due(what + ": " + subject + " as the last", isRight ? 0 : 16 + 4);
        chain("a").next(holder("a", "b").with(bounds)).next(holder("b", subject)).next(holder(subject, subject))
            .next(from(subject, subject)).due(what + ": " + subject + " in the middle", isRight ? 0 : 16 + 4);
    }

    /** Condition 4: "its subject is within some name of each list of permitted names". */
    private static void withinSomeNameOfAList() {
        last("p.q permitted", Encoding.permitted("p.q"), "p.q", true);
        last("p.q permitted", Encoding.permitted("p.q"), "p.q.r", true);
        last("p.q permitted", Encoding.permitted("p.q"), "p", false);
        last("p.q permitted", Encoding.permitted("p.q"), "", false);
        last("p.q permitted", Encoding.permitted("p.q"), "p.r", false);
        last("four labels permitted", Encoding.permitted("p.q.r.s"), "p.q.r.s", true);
        last("four labels permitted", Encoding.permitted("p.q.r.s"), "p.q.r", false);
        last("the empty name permitted", Encoding.permitted(""), "", true);
        last("the empty name permitted", Encoding.permitted(""), "p.q.r.s", true);
        String[] three = {"p", "q", "r"};
        for (String name : three) {
            last("three permitted", Encoding.permitted(three), name, true);
        }
        last("three permitted", Encoding.permitted(three), "s", false);
    }

    /** Condition 4: "each list", of up to five in a path of six. */
    private static void withinEachList() {
        for (int missing = -1; missing < 5; missing++) {
            Chain c = chain("p");
            for (int p = 0; p < 5; p++) {
                // The missing list permits the names of all certificates but the last one.
                String[] names = p == missing ? new String[] {"p.m", "q", "r"} : new String[] {"q", "r", "p"};
                c.next(holder(p == 0 ? "p" : "p.m", "p.m").with(Encoding.permitted(names)));
            }
            c.next(from("p.m", "p.x"));
            c.due("five lists, the last one is not within list " + missing, missing < 0 ? 0 : 80 + 4);
        }
    }

    /** Condition 4: "and within no excluded one". */
    private static void withinNoExcludedName() {
        last("p.q excluded", Encoding.excluded("p.q"), "p.q", false);
        last("p.q excluded", Encoding.excluded("p.q"), "p.q.r", false);
        last("p.q excluded", Encoding.excluded("p.q"), "p", true);
        last("p.q excluded", Encoding.excluded("p.q"), "", true);
        last("p.q excluded", Encoding.excluded("p.q"), "p.r", true);
        last("the empty name excluded", Encoding.excluded(""), "", false);
        last("the empty name excluded", Encoding.excluded(""), "p", false);
        String[] three = {"p", "q", "r"};
        for (String name : three) {
            last("three excluded", Encoding.excluded(three), name, false);
        }
        last("three excluded", Encoding.excluded(three), "s", true);
        last("permitted and excluded", Encoding.bounds(new String[] {"p"}, new String[] {"p"}), "p", false);
        last("permitted, a part excluded", Encoding.bounds(new String[] {"p"}, new String[] {"p.q"}), "p.r", true);
        last("permitted, a part excluded", Encoding.bounds(new String[] {"p"}, new String[] {"p.q"}), "p.q", false);
        for (int by = 0; by < 5; by++) {
            Chain c = chain("p");
            for (int p = 0; p < 5; p++) {
                c.next(holder("p", "p").with(Encoding.excluded(p == by ? "x" : "y")));
            }
            c.next(from("p", "x"));
            c.due("excluded by " + by, 80 + 4);
        }
    }

    /** Condition 4: "Unless it is self-issued and not the last one". */
    private static void selfIssuedOnesInTheMiddle() {
        chain("a").next(holder("a", "b").with(Encoding.permitted("p"))).next(holder("b", "b")).next(from("b", "p"))
            .due("self-issued and not permitted", 0);
        chain("a").next(holder("a", "b").with(Encoding.excluded("b"))).next(holder("b", "b")).next(from("b", "p"))
            .due("self-issued and excluded", 0);
        chain("a").next(holder("a", "b").with(Encoding.excluded("b"))).next(holder("b", "b.c")).next(from("b.c", "p"))
            .due("within its issuer is not self-issued", 16 + 4);
        chain("").next(holder("", "").with(Encoding.excluded(""))).next(holder("", "")).next(from("", ""))
            .due("self-issued by the empty name", 32 + 4);
    }

    /** Condition 4: the last one is looked at, self-issued or not. */
    private static void selfIssuedOnesAtTheEnd() {
        chain("a").next(holder("a", "b").with(Encoding.permitted("p"))).next(from("b", "b")).due("not permitted", 16 + 4);
        chain("a").next(holder("a", "b").with(Encoding.excluded("b"))).next(from("b", "b")).due("excluded", 16 + 4);
        chain("a").next(holder("a", "b").with(Encoding.permitted("b"))).next(from("b", "b")).due("permitted", 0);
        chain("a").next(from("a", "a").with(Encoding.excluded("a"))).due("alone, excluding itself", 0);
    }

    /** "Then, if it has BOUNDS, ..": they bind those behind it, and not itself; self-issued ones have bounds, too. */
    private static void boundsBindThoseBehind() {
        chain("a").next(holder("a", "b").with(Encoding.excluded("b"))).next(from("b", "c")).due("it may exclude itself", 0);
        chain("a").next(holder("a", "b").with(Encoding.permitted("c"))).next(from("b", "c")).due("it may not permit itself", 0);
        chain("a").next(holder("a", "a").with(Encoding.excluded("c"))).next(from("a", "c")).due("a self-issued one excludes", 16 + 4);
        chain("a").next(holder("a", "a").with(Encoding.permitted("d"))).next(from("a", "c")).due("a self-issued one permits", 16 + 4);
        chain("a").next(holder("a", "b").with(Encoding.permitted("c", "d"))).next(holder("b", "c").with(Encoding.permitted("d", "e")))
            .next(from("c", "e")).due("a later list does not widen", 32 + 4);
        chain("a").next(holder("a", "b").with(Encoding.permitted("c", "d"))).next(holder("b", "c").with(Encoding.permitted("d", "e")))
            .next(from("c", "d")).due("within both", 0);
        chain("a").next(holder("a", "b").with(Encoding.excluded("d"))).next(holder("b", "c").with(Encoding.permitted("d")))
            .next(from("c", "d")).due("what is excluded stays so", 32 + 4);
        chain("a").next(holder("a", "b")).next(from("b", "c").with(Encoding.excluded("c"))).due("the bounds of the last", 0);
    }

    /** "its permitted names are one more list (if it has some)". */
    private static void boundsWithoutPermittedNames() {
        chain("a").next(holder("a", "b").with(Encoding.excluded("x"))).next(from("b", "y")).due("no list, all is permitted", 0);
        chain("a").next(holder("a", "b").with(Encoding.permitted("y"))).next(from("b", "y")).due("nothing is excluded", 0);
        chain("a").next(holder("a", "b").with(Encoding.permitted("y"))).next(holder("b", "y").with(Encoding.excluded("x")))
            .next(from("y", "y.z")).due("a list, then none", 0);
        chain("a").next(holder("a", "b").with(Encoding.permitted("y"))).next(holder("b", "y").with(Encoding.excluded("x")))
            .next(from("y", "z")).due("the list before stays", 32 + 4);
    }

    /** "5 None of its extensions that are critical has a number other than 1, 2 and 3." */
    private static void criticalNumbers() {
        for (int number = 0; number < 256; number++) {
            int[] octets = number == 1 ? Encoding.sequence(Encoding.TRUE) : number == 2 ? Encoding.bits(5)
                : number == 3 ? Encoding.sequence(Encoding.names(160, "")) : Encoding.bytes();
            boolean isKnown = number >= 1 && number <= 3;
            chain("a").next(from("a", "b").with(Encoding.extension(number, true, octets)))
                .due("critical " + number, isKnown ? 0 : 5);
            chain("a").next(from("a", "b").with(Encoding.extension(number, false, octets)))
                .due("not critical " + number, 0);
        }
        for (int place = 0; place < 4; place++) {
            Draft d = from("a", "b");
            for (int k = 0; k < 4; k++) {
                d.with(Encoding.extension(9 + k, k == place, Encoding.bytes()));
            }
            chain("a").next(d).due("the critical one is extension " + place, 5);
        }
        chain("a").next(from("a", "b").with(Encoding.extension(9, false, Encoding.bytes()), Encoding.extension(10, false, Encoding.bytes()),
            Encoding.extension(0, false, Encoding.bytes()), Encoding.extension(4, false, Encoding.bytes()))).due("four, none critical", 0);
        chain("a").next(from("a", "b").with(Encoding.extension(9, false, Encoding.bytes()), Encoding.extension(3, true,
            Encoding.sequence(Encoding.names(160, ""))), Encoding.extension(2, true, Encoding.bits(5)), Encoding.extension(1, true,
            Encoding.sequence()))).due("four, the known ones critical", 0);
        nothingIsCriticalFromBefore();
    }

    /** Nothing is left of critical extensions that stood in what was kept before reset(), or was refused. */
    private static void nothingIsCriticalFromBefore() {
        int[] plain = Encoding.extension(8, false, Encoding.bytes());
        Draft critical = new Draft().with(Encoding.extension(9, true, Encoding.bytes()), Encoding.extension(10, true, Encoding.bytes()));
        CertificatePath x = new CertificatePath();
        for (int i = 0; i < 3; i++) {
            critical.keptBy(x);
        }
        x.reset();
        new Draft().names("q", "a").key(2, 1).keptBy(x);
        Draft[] drafts = {from("a", "b"), from("a", "b").with(plain), from("a", "b"), from("a", "b").with(plain)};
        for (Draft d : drafts) {
            x.link(d.signedBy(2, 1).keptBy(x));
            DUE.answer("number " + (x.count() - 1), x.check(0, TIME, 0), 0);
            x.unlink();
            Encoding.load(x, Encoding.join(critical.bytes(), Encoding.bytes(0)));
            DUE.answer("accept() of a wrong one", x.accept(), -1);
        }
    }

    /** "6 It has BASIC, and its subject is an AUTHORITY", "If it is not the last one". */
    private static void authorityIsNeededBeforeTheLast() {
        int[] empty = Encoding.extension(1, false, Encoding.sequence());
        chain("a").next(from("a", "b")).next(from("b", "c")).due("no BASIC", 6);
        chain("a").next(from("a", "b").with(empty)).next(from("b", "c")).due("BASIC, but no authority", 6);
        chain("a").next(holder("a", "b")).next(from("b", "c")).due("an authority", 0);
        chain("a").next(from("a", "a")).next(from("a", "c")).due("self-issued, no BASIC", 6);
        chain("a").next(from("a", "b")).due("the last one, no BASIC", 0);
        chain("a").next(from("a", "b").with(empty)).due("the last one, no authority", 0);
    }

    private static Chain behind(Draft first, int between) {
        Chain c = chain("a").next(first);
        for (int k = 0; k < between; k++) {
            c.next(holder(named(k + 1), named(k + 2)));
        }
        return c.next(from(named(between + 1), "z"));
    }

    /** "7 If it is not self-issued: the REST is greater than 0; it becomes one less." */
    private static void restIsGreaterThan0() {
        for (int reach = 0; reach <= 4; reach++) {
            for (int between = 0; between <= 4; between++) {
                behind(reaching("a", "b", reach), between)
                    .due("reach " + reach + ", " + between + " between", between <= reach ? 0 : 16 * (reach + 1) + 7);
            }
        }
    }

    /** "the REST the number of certificates of the path" at first: it is enough for any path. */
    private static void restIsFirstTheNumberOfCertificates() {
        for (int between = 0; between <= 4; between++) {
            behind(holder("a", "b"), between).due("no reach, " + between + " between", 0);
            behind(reaching("a", "b", MOST), between).due("the greatest reach, " + between + " between", 0);
            behind(reaching("a", "b", between), between).due("the reach that is needed", 0);
        }
    }

    /** "if there is a REACH that is less than the REST, the REST becomes the REACH". */
    private static void reachLessThanTheRest() {
        for (int first = 0; first <= 3; first++) {
            for (int second = 0; second <= 3; second++) {
                Chain c = chain("a").next(reaching("a", "b", first)).next(reaching("b", "c", second))
                    .next(holder("c", "d")).next(holder("d", "e")).next(from("e", "f"));
                // Behind the second one there may be as many more as the lesser of the two allows.
                int rest = Math.min(first - 1, second);
                c.due("reaches " + first + " and " + second, first == 0 ? 16 + 7 : rest >= 2 ? 0 : 16 * (2 + rest) + 7);
            }
        }
        chain("a").next(reaching("a", "b", 0)).next(from("b", "c")).due("the last one takes no rest", 0);
        chain("a").next(holder("a", "b")).next(reaching("b", "c", 0)).due("the reach of the last one", 0);
    }

    /** Condition 7, self-issued ones: the REST may be 0, and stays as it is. */
    private static void selfIssuedOnesTakeNoRest() {
        chain("a").next(reaching("a", "b", 0)).next(holder("b", "b")).next(holder("b", "b")).next(holder("b", "b"))
            .next(from("b", "c")).due("three self-issued ones and the rest 0", 0);
        chain("a").next(reaching("a", "b", 0)).next(holder("b", "b")).next(holder("b", "c")).next(from("c", "d"))
            .due("the rest is 0 yet", 32 + 7);
        chain("a").next(reaching("a", "b", 1)).next(holder("b", "b")).next(holder("b", "c")).next(from("c", "d"))
            .due("the rest is 1 yet", 0);
        chain("a").next(reaching("a", "b", 1)).next(holder("b", "b")).next(holder("b", "c")).next(holder("c", "d"))
            .next(from("d", "e")).due("the rest is 1 for one alone", 48 + 7);
        chain("a").next(reaching("a", "b", 0)).next(holder("b", "b.c")).next(from("b.c", "d"))
            .due("within its issuer is not self-issued", 16 + 7);
    }

    /** Condition 7: "Then, self-issued or not, if there is a REACH ..". */
    private static void selfIssuedOnesReach() {
        chain("a").next(reaching("a", "a", 0)).next(from("a", "b")).due("reach 0, the last behind it", 0);
        chain("a").next(reaching("a", "a", 0)).next(holder("a", "b")).next(from("b", "c")).due("reach 0, one between", 16 + 7);
        chain("a").next(reaching("a", "a", 1)).next(holder("a", "b")).next(from("b", "c")).due("reach 1, one between", 0);
        chain("a").next(reaching("a", "a", 1)).next(reaching("a", "a", 0)).next(holder("a", "b")).next(from("b", "c"))
            .due("a lesser reach", 32 + 7);
        chain("a").next(reaching("a", "a", 0)).next(reaching("a", "a", 9)).next(holder("a", "b")).next(from("b", "c"))
            .due("a greater reach", 32 + 7);
    }

    /** "8 If it has USAGE, 5 is in it." */
    private static void usageOfThoseBeforeTheLast() {
        for (int k = 0; k <= 7; k++) {
            chain("a").next(holder("a", "b").with(Encoding.usage(k))).next(from("b", "c")).due(k + " alone", k == 5 ? 0 : 8);
        }
        chain("a").next(holder("a", "b")).next(from("b", "c")).due("no USAGE", 0);
        chain("a").next(holder("a", "b").with(Encoding.usage())).next(from("b", "c")).due("the empty set", 8);
        chain("a").next(holder("a", "b").with(Encoding.usage(0, 1, 2, 3, 4, 6, 7))).next(from("b", "c")).due("all but 5", 8);
        chain("a").next(holder("a", "b").with(Encoding.usage(0, 1, 2, 3, 4, 5, 6, 7))).next(from("b", "c")).due("all", 0);
        chain("a").next(holder("a", "b").with(Encoding.usage(5))).next(from("b", "c"))
            .due("what is asked for is not asked of it", TIME, 255, 0);
    }

    /** "9 If it has USAGE, all of the usage asked for (perhaps nothing) is in it." */
    private static void usageOfTheLast() {
        chain("a").next(from("a", "b")).due("no USAGE, all asked for", TIME, 255, 0);
        Chain none = chain("a").next(from("a", "b").with(Encoding.usage()));
        none.due("the empty set, nothing asked for", TIME, 0, 0);
        Chain all = chain("a").next(from("a", "b").with(Encoding.usage(0, 1, 2, 3, 4, 5, 6, 7)));
        all.due("all, all asked for", TIME, 255, 0);
        all.due("all, nothing asked for", TIME, 0, 0);
        for (int k = 0; k <= 7; k++) {
            none.due("the empty set", TIME, 1 << k, 9);
            all.due("all", TIME, 1 << k, 0);
            Chain one = chain("a").next(from("a", "b").with(Encoding.usage(k)));
            for (int asked = 0; asked <= 255; asked++) {
                one.due("the set of " + k, TIME, asked, (asked & ~(1 << k)) == 0 ? 0 : 9);
            }
        }
        chain("a").next(from("a", "b").with(Encoding.usage(0))).due("5 is not needed", TIME, 1, 0);
    }

    /** "an anchor (a kept certificate, of which only what is said here is looked at)". */
    private static void onlyKeyAndSubjectOfTheAnchor() {
        Draft[] anchors = {
            new Draft().names("q", "a").signature(MOST),
            new Draft().names("q", "a").times(MOST, 0),
            new Draft().names("", "a"),
            new Draft().names("q", "a").with(Encoding.permitted("never")),
            new Draft().names("q", "a").with(Encoding.excluded("")),
            new Draft().names("q", "a").with(Encoding.extension(9, true, Encoding.bytes())),
            new Draft().names("q", "a").with(Encoding.extension(1, true, Encoding.sequence())),
            new Draft().names("q", "a").with(Encoding.authority(0)),
            new Draft().names("q", "a").with(Encoding.usage()),
        };
        for (int n = 0; n < anchors.length; n++) {
            CertificatePath x = new CertificatePath();
            anchors[n].key(101, 3).keptBy(x);
            x.link(holder("a", "b").key(107, 3).signedBy(101, 3).keptBy(x));
            x.link(holder("b", "c").key(113, 3).signedBy(107, 3).keptBy(x));
            x.link(from("c", "d").signedBy(113, 3).keptBy(x));
            DUE.answer("anchor " + n, x.check(0, TIME, 255), 0);
        }
    }

    /** "perhaps with the same one several times, or with the anchor (each is looked at for itself)". */
    private static void theAnchorInThePath() {
        CertificatePath x = new CertificatePath();
        holder("a", "a").key(101, 3).times(TIME, TIME).signedBy(101, 3).keptBy(x);
        holder("b", "a").key(101, 3).times(TIME, TIME).signedBy(101, 3).keptBy(x);
        for (int count = 1; count <= 6; count++) {
            DUE.answer("link(0)", x.link(0), true);
            DUE.answer("the anchor as certificate, " + count, x.check(0, TIME, 0), 0);
            DUE.answer("the anchor as certificate, too late", x.check(0, TIME + 1, 0), 2);
        }
        x.unlink();
        x.link(1);
        DUE.answer("another one behind the anchor", x.check(0, TIME, 0), 80 + 3);
        DUE.answer("an anchor that would not hold in the path", x.check(1, TIME, 0), 80 + 3);
        CertificatePath y = new CertificatePath();
        reaching("a", "a", 0).key(101, 3).with(Encoding.excluded("a")).signedBy(101, 3).keptBy(y);
        y.link(0);
        DUE.answer("the anchor's own bounds and reach, once in the path", y.check(0, TIME, 0), 0);
        y.link(0);
        DUE.answer("the anchor's own bounds, twice in the path", y.check(0, TIME, 0), 16 + 4);
    }

    /** Promise 16 tells no change: neither an answer of 0, nor of a condition, nor NONE leaves anything behind. */
    private static void checkChangesNothing() {
        Sight.unchanged(DUE, "check that answers 0", Sight::full, x -> x.check(0, TIME, 0));
        Sight.unchanged(DUE, "check that answers a condition", Sight::full, x -> x.check(0, LEAST, 255));
        Sight.unchanged(DUE, "check that answers NONE", Sight::full, x -> x.check(8, TIME, 0));
        Chain c = chain("a").next(reaching("a", "b", 1).with(Encoding.permitted("c", "d"))).next(holder("b", "c")).next(from("c", "d"));
        for (int turn = 0; turn < 4; turn++) {
            c.due("once more", 0);
            c.due("once more, too late", MOST, 0, 2);
            c.due("once more, wrong usage", TIME, 256, -1);
        }
    }
}
