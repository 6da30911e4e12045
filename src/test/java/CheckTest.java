import java.math.BigInteger;

/** Promise 16: check, its conditions 1 to 9 and their order. */
public final class CheckTest {
    private static final Due DUE = new Due();
    private static final int TIME = Chain.TIME;

    public static void main(String[] args) {
        wrongArguments();
        signatures();
        greatKeys();
        everyExponent();
        keysAreHandedOn();
        times();
        holders();
        permittedNames();
        excludedNames();
        boundsOfSeveral();
        selfIssuedAndBounds();
        criticalOnes();
        authorities();
        reaches();
        selfIssuedAndReach();
        usagesOfHolders();
        usagesOfTheLast();
        orderOfConditions();
        theFirstPlaceCounts();
        theAnchorIsNotJudged();
        theAnchorInThePath();
        checkChangesNothing();
        DUE.end();
    }

    private static Chain chain(String anchorName) {
        return new Chain(DUE, anchorName);
    }

    private static Draft from(String issuer, String subject) {
        return new Draft().names(issuer, subject);
    }

    private static Draft holder(String issuer, String subject) {
        return from(issuer, subject).with(Encoding.authority());
    }

    private static void wrongArguments() {
        Chain c = chain("a");
        DUE.answer("an empty path", c.x.check(0, TIME, 0), -1);
        c.next(from("a", "b"));
        c.due("right", 0);
        int[] noCertificate = {-1, 2, 7, 8, 9, Integer.MIN_VALUE, Integer.MAX_VALUE};
        for (int i : noCertificate) {
            DUE.answer("anchor " + i, c.x.check(i, TIME, 0), -1);
        }
        int[] wrong = {-1, 256, 257, 1 << 30, Integer.MIN_VALUE, Integer.MAX_VALUE};
        for (int usage : wrong) {
            c.due("wrong usage", TIME, usage, -1);
        }
        c.due("every usage of one without USAGE", TIME, 255, 0);
    }

    private static int signed(long modulus, long exponent, long signature) {
        CertificatePath x = new CertificatePath();
        new Draft().names("q", "a").key(modulus, exponent).keptBy(x);
        x.link(from("a", "b").signature(signature).keptBy(x));
        return x.check(0, TIME, 0);
    }

    private static void signatures() {
        int hash = from("a", "b").bodyHash();
        int[] moduli = {2, 3, 4, 6, 7, 8, 9, 12, 25, 97};
        int[] exponents = {1, 2, 3, 4, 7, 8, 999, 1000};
        for (int m : moduli) {
            for (int e : exponents) {
                for (int s = 0; s < 2 * m + 2; s++) {
                    boolean right = s < m && Draft.power(s, e, m) == hash % m;
                    DUE.answer("key " + m + ", " + e + " signature " + s, signed(m, e, s), right ? 0 : 1);
                }
            }
        }
        DUE.answer("the rest is right, but it is not less than the modulus", signed(101, 1, hash % 101 + 101), 1);
        DUE.answer("the hash itself under a modulus beyond it", signed(1000003, 1, hash), 0);
        DUE.answer("the hash itself as modulus", signed(hash, 1, 0), 0);
        DUE.answer("a signature equal to the modulus", signed(hash, 1, hash), 1);
        DUE.answer("the greatest signature and modulus", signed(2147483647, 1, 2147483647), 1);
    }

    private static void greatKeys() {
        BigInteger modulus = BigInteger.valueOf(2147483647);
        BigInteger hash = BigInteger.valueOf(from("a", "b").bodyHash());
        int[] exponents = {1, 5, 13, 17, 25, 625, 943, 995, 997};
        for (int e : exponents) {
            BigInteger inverse = BigInteger.valueOf(e).modInverse(modulus.subtract(BigInteger.ONE));
            int s = hash.modPow(inverse, modulus).intValueExact();
            DUE.answer("great key, exponent " + e, signed(2147483647, e, s), 0);
            DUE.answer("great key, exponent " + e + ", next signature", signed(2147483647, e, s + 1), 1);
            DUE.answer("great key, next exponent to " + e, signed(2147483647, e + 1, s), 1);
        }
    }

    /** In the powers of 3 modulo 65537 each exponent up to 1000 gives another rest. */
    private static void everyExponent() {
        int modulus = 65537;
        for (int e = 1; e <= 1000; e += 37) {
            CertificatePath x = new CertificatePath();
            new Draft().names("q", "a").key(modulus, e).keptBy(x);
            Draft d = from("a", "b");
            long want = BigInteger.valueOf(3).modPow(BigInteger.valueOf(e), BigInteger.valueOf(modulus)).longValue();
            int serial = 0;
            while (d.serial(serial).bodyHash() % modulus != want) {
                serial++;
            }
            x.link(d.signature(3).keptBy(x));
            DUE.answer("exponent " + e, x.check(0, TIME, 0), 0);
            new Draft().names("q", "a").key(modulus, e == 1000 ? 999 : e + 1).keptBy(x);
            DUE.answer("exponent beside " + e, x.check(2, TIME, 0), 1);
        }
    }

    private static void keysAreHandedOn() {
        Chain c = chain("a").next(holder("a", "b")).next(holder("b", "c")).next(holder("c", "d"));
        c.next(holder("d", "e")).next(holder("e", "f")).next(from("f", "g"));
        c.due("six in a row", 0);
        CertificatePath x = new CertificatePath();
        new Draft().names("q", "a").key(101, 3).keptBy(x);
        x.link(holder("a", "b").key(107, 3).signedBy(101, 3).keptBy(x));
        x.link(from("b", "c").signedBy(101, 3).keptBy(x));
        DUE.answer("signed by the anchor's key instead of the one before", x.check(0, TIME, 0), 16 + 1);
    }

    private static void times() {
        int most = Integer.MAX_VALUE;
        int least = Integer.MIN_VALUE;
        long[][] ranges = {{5, 100}, {0, 0}, {7, 7}, {9, 8}, {0, most}, {most, most}, {most, 0}};
        int[] times = {least, -1, 0, 1, 4, 5, 6, 7, 8, 9, 10, 99, 100, 101, most - 1, most};
        for (long[] range : ranges) {
            Chain c = chain("a").next(from("a", "b").times(range[0], range[1]));
            for (int time : times) {
                boolean right = range[0] <= time && time <= range[1];
                c.due(range[0] + " to " + range[1], time, 0, right ? 0 : 2);
            }
        }
        Chain c = chain("a").next(holder("a", "b").times(10, 20)).next(from("b", "c").times(15, 30));
        c.due("both", 15, 0, 0);
        c.due("both", 20, 0, 0);
        c.due("the first only", 14, 0, 16 + 2);
        c.due("the second only", 21, 0, 2);
        c.due("neither", 31, 0, 2);
    }

    private static void holders() {
        String[] names = {"", "a", "a.b", "b.a", "a.b.c", "aa", "b"};
        for (String p : names) {
            for (String q : names) {
                chain(p).next(from(q, "z")).due("holder " + p + ", issuer " + q, p.equals(q) ? 0 : 3);
                chain("x").next(holder("x", p)).next(from(q, "z"))
                    .due("second holder " + p + ", issuer " + q, p.equals(q) ? 0 : 16 + 3);
            }
        }
        chain("a").next(holder("a", "b")).next(from("a", "c")).due("the holder before the last", 16 + 3);
    }

    private static Draft bounded(int[] bounds) {
        return holder("a", "b").with(bounds);
    }

    private static void lastUnder(int[] bounds, String subject, boolean right) {
        chain("a").next(bounded(bounds)).next(from("b", subject))
            .due("the last is " + subject, right ? 0 : 16 + 4);
        chain("a").next(bounded(bounds)).next(holder("b", subject)).next(holder(subject, subject))
            .next(from(subject, subject)).due("all behind it are " + subject, right ? 0 : 16 + 4);
    }

    private static void permittedNames() {
        int[] one = Encoding.permitted("p.q");
        lastUnder(one, "p.q", true);
        lastUnder(one, "p.q.r.s", true);
        lastUnder(one, "p", false);
        lastUnder(one, "", false);
        lastUnder(one, "p.r", false);
        lastUnder(one, "q.p", false);
        lastUnder(one, "p.qq", false);
        int[] three = Encoding.permitted("p", "q.r", "s");
        lastUnder(three, "p.x", true);
        lastUnder(three, "q.r", true);
        lastUnder(three, "s", true);
        lastUnder(three, "q", false);
        lastUnder(three, "t", false);
        lastUnder(Encoding.permitted(""), "", true);
        lastUnder(Encoding.permitted(""), "x", true);
        chain("a").next(bounded(Encoding.permitted("p"))).due("its own bounds, as the last", 0);
        chain("a").next(bounded(Encoding.permitted("p"))).next(from("b", "p"))
            .due("its own bounds do not bind it", 0);
    }

    private static void excludedNames() {
        int[] one = Encoding.excluded("p.q");
        lastUnder(one, "p.q", false);
        lastUnder(one, "p.q.r.s", false);
        lastUnder(one, "p", true);
        lastUnder(one, "", true);
        lastUnder(one, "p.r", true);
        lastUnder(one, "q.p", true);
        int[] three = Encoding.excluded("p", "q.r", "s");
        lastUnder(three, "p.x", false);
        lastUnder(three, "q.r", false);
        lastUnder(three, "s", false);
        lastUnder(three, "q", true);
        lastUnder(Encoding.excluded(""), "", false);
        lastUnder(Encoding.excluded(""), "x", false);
        int[] both = Encoding.bounds(new String[] {"p", "q"}, new String[] {"p.x", "q.y"});
        lastUnder(both, "p", true);
        lastUnder(both, "p.y", true);
        lastUnder(both, "q.x", true);
        lastUnder(both, "p.x", false);
        lastUnder(both, "q.y.z", false);
        lastUnder(both, "r", false);
    }

    private static Chain underTwo(int[] first, int[] second, String subject) {
        return chain("a").next(holder("a", "p").with(first)).next(holder("p", "p.q").with(second))
            .next(from("p.q", subject));
    }

    private static void boundsOfSeveral() {
        int[] p = Encoding.permitted("p", "m");
        int[] pq = Encoding.permitted("p.q", "n");
        underTwo(p, pq, "p.q.r").due("within both lists", 0);
        underTwo(p, pq, "p.r").due("within the first list only", 32 + 4);
        underTwo(p, pq, "n").due("within the second list only", 32 + 4);
        underTwo(p, Encoding.excluded("p.q.x"), "p.q.y").due("permitted first, not excluded then", 0);
        underTwo(p, Encoding.excluded("p.q.x"), "p.q.x.y").due("permitted first, excluded then", 32 + 4);
        underTwo(Encoding.excluded("s"), Encoding.excluded("t"), "s.u").due("excluded first", 32 + 4);
        underTwo(Encoding.excluded("s"), Encoding.excluded("t"), "t").due("excluded then", 32 + 4);
        underTwo(Encoding.excluded("s"), Encoding.excluded("t"), "u").due("excluded by neither", 0);
        underTwo(Encoding.excluded("s"), Encoding.permitted("s"), "s").due("excluded first, permitted then", 32 + 4);
        underTwo(Encoding.permitted("m"), pq, "p.q").due("the second one itself", 16 + 4);
    }

    private static void selfIssuedAndBounds() {
        chain("a").next(holder("a", "b").with(Encoding.permitted("p"))).next(holder("b", "b"))
            .next(from("b", "p")).due("self-issued in the middle is not bound", 0);
        chain("a").next(holder("a", "b").with(Encoding.excluded("b"))).next(holder("b", "b"))
            .next(from("b", "p")).due("self-issued in the middle is not excluded", 0);
        chain("a").next(holder("a", "b").with(Encoding.permitted("p"))).next(from("b", "b"))
            .due("self-issued as the last is bound", 16 + 4);
        chain("a").next(holder("a", "b").with(Encoding.excluded("b"))).next(from("b", "b"))
            .due("self-issued as the last is excluded", 16 + 4);
        chain("a").next(holder("a", "b").with(Encoding.permitted("p"))).next(holder("b", "b"))
            .next(from("b", "q")).due("the bounds hold behind a self-issued one", 32 + 4);
        chain("a").next(holder("a", "a").with(Encoding.permitted("p"))).next(from("a", "q"))
            .due("the bounds of a self-issued one hold", 16 + 4);
        chain("a").next(holder("a", "a").with(Encoding.excluded("p"))).next(from("a", "p"))
            .due("what a self-issued one excludes is excluded", 16 + 4);
        chain("").next(holder("", "").with(Encoding.excluded(""))).next(holder("", ""))
            .next(from("", "")).due("the empty name is a name, too", 32 + 4);
    }

    private static void criticalOnes() {
        int[] others = {0, 4, 5, 100, 127, 128, 255};
        for (int number : others) {
            int[] critical = Encoding.extension(number, true, Encoding.bytes(1));
            int[] plain = Encoding.extension(number, false, Encoding.bytes(1));
            chain("a").next(from("a", "b").with(critical)).due("critical " + number, 5);
            chain("a").next(from("a", "b").with(plain)).due("not critical " + number, 0);
            chain("a").next(holder("a", "b").with(critical)).next(from("b", "c")).due("first critical " + number, 5);
            chain("a").next(holder("a", "b").with(plain)).next(from("b", "c")).due("first plain " + number, 0);
            chain("a").next(holder("a", "b")).next(from("b", "c").with(critical)).due("then critical " + number, 16 + 5);
        }
        int[] basic = Encoding.extension(1, true, Encoding.sequence(Encoding.TRUE));
        int[] usage = Encoding.extension(2, true, Encoding.bits(5));
        int[] bounds = Encoding.extension(3, true, Encoding.sequence(Encoding.names(160, "")));
        chain("a").next(from("a", "b").with(basic, usage, bounds)).next(from("b", "c").with(basic, usage, bounds))
            .due("the known ones may be critical", 0);
        int[] plain = Encoding.extension(7, false, Encoding.bytes());
        int[] critical = Encoding.extension(9, true, Encoding.bytes());
        chain("a").next(from("a", "b").with(basic, usage, plain, critical)).due("the fourth is critical", 5);
        chain("a").next(from("a", "b").with(critical, usage, plain)).due("the first is critical", 5);
    }

    private static void authorities() {
        int[] none = Encoding.extension(1, false, Encoding.sequence());
        chain("a").next(from("a", "b")).next(from("b", "c")).due("no BASIC", 6);
        chain("a").next(from("a", "b").with(none)).next(from("b", "c")).due("no authority", 6);
        chain("a").next(holder("a", "b")).next(from("b", "c")).due("an authority", 0);
        chain("a").next(from("a", "b").with(none)).due("none is needed as the last", 0);
        chain("a").next(holder("a", "b")).next(from("b", "c").with(none)).next(from("c", "d"))
            .due("no authority in the middle", 16 + 6);
        chain("a").next(from("a", "a")).next(from("a", "c")).due("a self-issued one needs it, too", 6);
    }

    private static Draft reaching(String issuer, String subject, int reach) {
        return from(issuer, subject).with(Encoding.authority(reach));
    }

    private static void reaches() {
        chain("a").next(reaching("a", "b", 0)).next(from("b", "c")).due("reach 0, the last behind it", 0);
        chain("a").next(reaching("a", "b", 0)).next(holder("b", "c")).next(from("c", "d"))
            .due("reach 0, one between", 16 + 7);
        chain("a").next(reaching("a", "b", 1)).next(holder("b", "c")).next(from("c", "d"))
            .due("reach 1, one between", 0);
        chain("a").next(reaching("a", "b", 1)).next(holder("b", "c")).next(holder("c", "d")).next(from("d", "e"))
            .due("reach 1, two between", 32 + 7);
        chain("a").next(reaching("a", "b", 2)).next(holder("b", "c")).next(holder("c", "d")).next(from("d", "e"))
            .due("reach 2, two between", 0);
        chain("a").next(reaching("a", "b", 1)).next(reaching("b", "c", 9)).next(holder("c", "d")).next(from("d", "e"))
            .due("a greater reach does not lengthen", 32 + 7);
        chain("a").next(reaching("a", "b", 9)).next(reaching("b", "c", 0)).next(holder("c", "d")).next(from("d", "e"))
            .due("a smaller reach shortens", 32 + 7);
        chain("a").next(reaching("a", "b", Integer.MAX_VALUE)).next(holder("b", "c")).next(holder("c", "d"))
            .next(holder("d", "e")).next(holder("e", "f")).next(from("f", "g")).due("the greatest reach", 0);
        chain("a").next(reaching("a", "b", 3)).next(holder("b", "c")).next(holder("c", "d"))
            .next(holder("d", "e")).next(holder("e", "f")).next(from("f", "g")).due("reach 3, four between", 64 + 7);
        chain("a").next(reaching("a", "b", 4)).next(holder("b", "c")).next(holder("c", "d"))
            .next(holder("d", "e")).next(holder("e", "f")).next(from("f", "g")).due("reach 4, four between", 0);
        chain("a").next(reaching("a", "b", 0)).next(reaching("b", "c", 0)).due("a reach of the last is nothing", 0);
    }

    private static void selfIssuedAndReach() {
        chain("a").next(reaching("a", "b", 0)).next(holder("b", "b")).next(from("b", "c"))
            .due("a self-issued one takes nothing", 0);
        chain("a").next(reaching("a", "b", 0)).next(holder("b", "b")).next(holder("b", "c")).next(from("c", "d"))
            .due("the rest is 0 yet behind it", 32 + 7);
        chain("a").next(reaching("a", "b", 1)).next(holder("b", "b")).next(holder("b", "c")).next(from("c", "d"))
            .due("the rest is 1 yet behind it", 0);
        chain("a").next(reaching("a", "a", 0)).next(holder("a", "b")).next(from("b", "c"))
            .due("the reach of a self-issued one counts", 16 + 7);
        chain("a").next(reaching("a", "a", 1)).next(holder("a", "b")).next(from("b", "c"))
            .due("the reach 1 of a self-issued one suffices", 0);
        chain("a").next(reaching("a", "b", 0)).next(reaching("b", "b", 5)).next(holder("b", "c")).next(from("c", "d"))
            .due("a self-issued one does not lengthen", 32 + 7);
    }

    private static void usagesOfHolders() {
        chain("a").next(holder("a", "b").with(Encoding.usage(5))).next(from("b", "c")).due("5", 0);
        chain("a").next(holder("a", "b").with(Encoding.usage(0, 1, 2, 3, 4, 6, 7))).next(from("b", "c"))
            .due("all but 5", 8);
        chain("a").next(holder("a", "b").with(Encoding.usage())).next(from("b", "c")).due("the empty set", 8);
        chain("a").next(holder("a", "b").with(Encoding.usage(2))).next(from("b", "c")).due("2 is not 5", 8);
        chain("a").next(holder("a", "a").with(Encoding.usage(1))).next(from("a", "c")).due("self-issued", 8);
        chain("a").next(holder("a", "b")).next(holder("b", "c").with(Encoding.usage(6))).next(from("c", "d"))
            .due("the second", 16 + 8);
        Chain c = chain("a").next(holder("a", "b").with(Encoding.usage(5))).next(from("b", "c"));
        c.due("what is asked for binds only the last", TIME, 1, 0);
    }

    private static void usagesOfTheLast() {
        for (int have = 0; have < 256; have += 5) {
            int[] numbers = new int[Integer.bitCount(have)];
            int at = 0;
            for (int k = 0; k < 8; k++) {
                if ((have >> k & 1) == 1) {
                    numbers[at++] = k;
                }
            }
            Chain c = chain("a").next(holder("a", "b")).next(from("b", "c").with(Encoding.usage(numbers)));
            for (int asked = 0; asked < 256; asked++) {
                c.due("usage " + have, TIME, asked, (have & asked) == asked ? 0 : 16 + 9);
            }
        }
        Chain c = chain("a").next(from("a", "b").with(Encoding.usage(0)));
        c.due("5 is not needed as the last", TIME, 1, 0);
    }

    /** In each draft less is broken than in the one before it: what stays broken first goes up one by one. */
    private static void orderOfConditions() {
        int[] critical = Encoding.extension(9, true, Encoding.bytes());
        int[] usage = Encoding.usage(1);
        Draft[] drafts = {
            from("c", "d").times(0, 1).with(critical, usage).notSignedBy(107, 3),
            from("c", "d").times(0, 1).with(critical, usage).signedBy(107, 3),
            from("c", "d").with(critical, usage).signedBy(107, 3),
            from("b", "d").with(critical, usage).signedBy(107, 3),
            from("b", "p").with(critical, usage).signedBy(107, 3),
            from("b", "p").with(usage).signedBy(107, 3),
            from("b", "p").with(usage, Encoding.authority()).signedBy(107, 3),
        };
        int[] inTheMiddle = {1, 2, 3, 4, 5, 6, 7};
        int[] asTheLast = {1, 2, 3, 4, 5, 9, 9};
        for (int k = 0; k < drafts.length; k++) {
            CertificatePath x = new CertificatePath();
            new Draft().names("q", "a").key(101, 3).keptBy(x);
            x.link(reaching("a", "b", 0).key(107, 3).with(Encoding.permitted("p")).signedBy(101, 3).keptBy(x));
            x.link(drafts[k].keptBy(x));
            DUE.answer("draft " + k + " as the last", x.check(0, TIME, 255), 16 + asTheLast[k]);
            x.link(from("z", "z").keptBy(x));
            DUE.answer("draft " + k + " in the middle", x.check(0, TIME, 255), 16 + inTheMiddle[k]);
        }
        chain("a").next(reaching("a", "b", 1)).next(holder("b", "c").with(Encoding.usage(1))).next(from("c", "d"))
            .due("8 when 7 holds", 16 + 8);
    }

    private static void theFirstPlaceCounts() {
        Chain c = chain("a").next(from("a", "b")).next(from("b", "c").times(0, 1)).next(from("c", "d"));
        c.due("condition 6 at 0 comes before condition 2 at 1", 6);
        c = chain("a").next(holder("a", "b")).next(holder("b", "c")).next(holder("c", "d")).next(holder("d", "e"))
            .next(holder("e", "f")).next(from("f", "g").with(Encoding.usage()));
        c.due("the last of six", TIME, 1, 80 + 9);
    }

    private static void theAnchorIsNotJudged() {
        CertificatePath x = new CertificatePath();
        new Draft().names("q", "a").times(90, 3).key(101, 3).signature(2147483647).with(
            Encoding.extension(1, false, Encoding.sequence()), Encoding.usage(), Encoding.permitted("never"),
            Encoding.extension(9, true, Encoding.bytes())).keptBy(x);
        new Draft().names("q", "a").key(101, 3).with(Encoding.authority(0), Encoding.excluded("")).keptBy(x);
        x.link(holder("a", "b").key(107, 3).signedBy(101, 3).keptBy(x));
        x.link(holder("b", "c").key(113, 3).signedBy(107, 3).keptBy(x));
        x.link(from("c", "d").signedBy(113, 3).keptBy(x));
        DUE.answer("an anchor with everything wrong", x.check(0, TIME, 255), 0);
        DUE.answer("an anchor with reach 0 and all excluded", x.check(1, TIME, 255), 0);
    }

    private static void theAnchorInThePath() {
        CertificatePath x = new CertificatePath();
        holder("a", "a").key(101, 3).signedBy(101, 3).keptBy(x);
        for (int k = 1; k <= 6; k++) {
            x.link(0);
            DUE.answer("the anchor " + k + " times", x.check(0, TIME, 0), 0);
            DUE.answer("the anchor " + k + " times, too late", x.check(0, 101, 0), 2);
        }
        x.reset();
        holder("a", "a").key(101, 3).with(Encoding.excluded("a")).signedBy(101, 3).keptBy(x);
        x.link(0);
        DUE.answer("alone", x.check(0, TIME, 0), 0);
        x.link(0);
        DUE.answer("it excludes itself as the last", x.check(0, TIME, 0), 16 + 4);
        x.link(0);
        DUE.answer("it excludes itself as the last of three", x.check(0, TIME, 0), 32 + 4);
    }

    private static void checkChangesNothing() {
        Chain c = chain("a").next(reaching("a", "b", 1)).next(holder("b", "c")).next(from("c", "d"));
        int size = c.x.length();
        for (int k = 0; k < 5; k++) {
            c.due("again", 0);
            c.due("again, too late", 1000, 0, 2);
        }
        DUE.answer("links", c.x.links(), 3);
        DUE.answer("count", c.x.count(), 4);
        DUE.answer("length", c.x.length(), size);
    }
}
