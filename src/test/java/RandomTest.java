import java.math.BigInteger;
import java.util.ArrayList;
import java.util.List;
import java.util.Random;

/** All promises: random runs of calls, always the same ones, answered as the reference answers them. */
public final class RandomTest {
    private static final int RUNS = 3000;
    private static final int CALLS = 512;
    private static final String[] NAMES = {"", "a", "b", "a.b", "a.b.c", "a.b.c.d", "a.c", "b.a", "abcdefgh", "b.b"};
    private static final int[] MODULI = {2, 3, 5, 6, 7, 15, 97, 101, 255, 256};
    private static final int[] EXPONENTS = {1, 1, 1, 3, 5, 7, 1000, 999};
    private static final int[] EDGES = {-1, 0, 1, 7, 8, 9, 255, 256, 160, 161, Integer.MIN_VALUE, Integer.MAX_VALUE};

    private static final Due DUE = new Due();
    private static final int[] SEEN = new int[16 * 6];

    private final Random random;
    private final String run;
    private final CertificatePath x = new CertificatePath();
    private final Reference y = new Reference();
    private final List<int[]> keys = new ArrayList<>();
    private final List<String> subjects = new ArrayList<>();
    private int calls = 0;

    private RandomTest(int seed) {
        random = new Random(seed);
        run = "run " + seed + ": ";
    }

    public static void main(String[] args) {
        for (int seed = 0; seed < RUNS; seed++) {
            RandomTest test = new RandomTest(seed);
            test.go();
        }
        everyAnswerWasSeen();
        DUE.end();
    }

    /** Each condition must have been broken at each place where it can be, or else the runs tell little. */
    private static void everyAnswerWasSeen() {
        for (int p = 0; p < 6; p++) {
            for (int c = 1; c <= 9; c++) {
                boolean never = p == 5 && c >= 6 && c <= 8 || p == 0 && (c == 4 || c == 7);
                if (!never && SEEN[16 * p + c] == 0) {
                    DUE.answer("times that " + (16 * p + c) + " was seen", 0, 1);
                }
            }
        }
        DUE.answer("0 was seen often", SEEN[0] > 1000, true);
    }

    private void due(String call, long got, long want) {
        calls++;
        DUE.answer(run + call, got, want);
    }

    private void due(String call, boolean got, boolean want) {
        due(call, got ? 1 : 0, want ? 1 : 0);
    }

    private boolean chance(int percent) {
        return random.nextInt(100) < percent;
    }

    private int oneOf(int[] row) {
        return row[random.nextInt(row.length)];
    }

    private String someName() {
        return NAMES[random.nextInt(NAMES.length)];
    }

    private void go() {
        boolean strict = chance(60);
        while (calls < CALLS - 160) {
            if (strict) {
                chain();
            } else {
                jumble();
            }
        }
        for (int i = -1; i <= y.count(); i++) {
            due("recode(" + i + ")", x.recode(i), y.recode(i));
            sameBuffer();
        }
        DUE.answer(run + "it keeps to the calls that the document allows", calls <= CALLS, true);
    }

    private void sameBuffer() {
        due("length()", x.length(), y.length());
        due("hash of all", x.hash(0, y.length()), y.hash(0, y.length()));
    }

    private void reset() {
        x.reset();
        y.reset();
        calls++;
    }

    private void load(int[] bytes) {
        due("trim(0)", x.trim(0), y.trim(0));
        int at = 0;
        while (at < bytes.length) {
            int n = Math.min(4, bytes.length - at);
            int w = 0;
            for (int k = 0; k < n; k++) {
                w = w << 8 | bytes[at + k];
            }
            due("feed(" + w + ", " + n + ")", x.feed(w, n), y.feed(w, n));
            at += n;
        }
    }

    private int accept() {
        int want = y.accept();
        due("accept()", x.accept(), want);
        return want;
    }

    private void check() {
        int anchor = chance(80) ? 0 : random.nextInt(9) - 1;
        int time = chance(85) ? 50 : chance(50) ? random.nextInt(110) - 5 : oneOf(EDGES);
        int usage = chance(50) ? 0 : chance(90) ? 1 << random.nextInt(8) : oneOf(EDGES);
        int want = y.check(anchor, time, usage);
        due("check(" + anchor + ", " + time + ", " + usage + ")", x.check(anchor, time, usage), want);
        if (want >= 0) {
            SEEN[want]++;
        }
    }

    /** An anchor and a path behind it, in which now and then something is wrong. */
    private void chain() {
        reset();
        keys.clear();
        subjects.clear();
        Draft anchor = new Draft().names(someName(), someName());
        keep(anchor, "", 100);
        int size = 1 + random.nextInt(6);
        for (int p = 0; p < size && calls < CALLS - 120; p++) {
            if (link(p, p == size - 1) && chance(30)) {
                check();
            }
        }
        check();
        check();
        fields();
    }

    private boolean link(int p, boolean last) {
        int before = keys.size() - 1;
        String holder = subjects.get(before);
        String subject = chance(25) ? holder : someName();
        String issuer = chance(97) ? holder : someName();
        Draft d = new Draft().names(issuer, subject);
        if (chance(4)) {
            d.times(random.nextInt(100), random.nextInt(100));
        }
        if (!last || chance(20)) {
            d.with(authority());
        }
        if (chance(30)) {
            d.with(usage(last ? 50 : 92));
        }
        if (chance(25)) {
            d.with(bounds(subject));
        }
        if (chance(8) && d.extensions.size() < 4) {
            d.with(Encoding.extension(chance(50) ? 0 : 200, chance(30), Encoding.repeated(5, random.nextInt(5))));
        }
        java.util.Collections.shuffle(d.extensions, random);
        int kept = keep(d, subject, 97);
        if (kept < 0) {
            return false;
        }
        due("link(" + kept + ")", x.link(kept), y.link(kept));
        return true;
    }

    private int[] authority() {
        boolean critical = chance(50);
        if (chance(3)) {
            return Encoding.extension(1, critical, Encoding.sequence());
        }
        int[] reach = chance(30) ? Encoding.integer(random.nextInt(5)) : Encoding.bytes();
        return Encoding.extension(1, critical, Encoding.sequence(Encoding.TRUE, reach));
    }

    private int[] usage(int percentOfFive) {
        int set = random.nextInt(256) & ~32 | (chance(percentOfFive) ? 32 : 0);
        int[] numbers = new int[Integer.bitCount(set)];
        int at = 0;
        for (int k = 0; k < 8; k++) {
            if ((set >> k & 1) == 1) {
                numbers[at++] = k;
            }
        }
        return Encoding.extension(2, chance(50), Encoding.bits(numbers));
    }

    private int[] bounds(String subject) {
        int[] first = chance(70) ? Encoding.names(160, "a", chance(50) ? "b" : subject, someName()) : Encoding.bytes();
        int[] second = first.length == 0 || chance(40) ? Encoding.names(161, NAMES[1 + random.nextInt(NAMES.length - 1)])
            : Encoding.bytes();
        return Encoding.extension(3, chance(50), Encoding.sequence(first, second));
    }

    /** Signs it by the last key, if there is such a signature and chance wills it, and keeps it. */
    private int keep(Draft d, String subject, int percentSigned) {
        int[] key = {oneOf(MODULI), oneOf(EXPONENTS)};
        d.key(key[0], key[1]);
        if (!keys.isEmpty() && chance(percentSigned)) {
            sign(d, keys.get(keys.size() - 1));
        } else {
            d.signature(random.nextInt(300));
        }
        int[] bytes = d.bytes();
        if (bytes.length > 160) {
            return -1;
        }
        load(bytes);
        int kept = accept();
        if (kept >= 0) {
            keys.add(key);
            subjects.add(keys.size() == 1 ? nameOf(d.subject) : subject);
        }
        return kept;
    }

    private static String nameOf(int[] encoded) {
        for (String name : NAMES) {
            if (java.util.Arrays.equals(Encoding.name(name), encoded)) {
                return name;
            }
        }
        throw new IllegalStateException("no such name");
    }

    /** Some bodies have no signature by some keys: another serial gives another hash. */
    private void sign(Draft d, int[] key) {
        for (int serial = 0; serial < 300; serial++) {
            int want = d.serial(serial).bodyHash() % key[0];
            for (int s = 0; s < key[0]; s++) {
                if (BigInteger.valueOf(s).modPow(BigInteger.valueOf(key[1]), BigInteger.valueOf(key[0])).intValue() == want) {
                    d.signature(s);
                    return;
                }
            }
        }
    }

    private void fields() {
        int i = random.nextInt(9) - 1;
        for (int k = -1; k <= 15; k++) {
            due("field(" + i + ", " + k + ")", x.field(i, k), y.field(i, k));
        }
    }

    /** Calls of every kind, with bytes that are now and then no certificate. */
    private void jumble() {
        switch (random.nextInt(14)) {
            case 0, 1 -> {
                load(spoiled(randomCertificate()));
                accept();
            }
            case 2 -> {
                int k = chance(90) ? random.nextInt(Math.max(1, y.length())) : oneOf(EDGES);
                int b = chance(90) ? random.nextInt(256) : oneOf(EDGES);
                due("set(" + k + ", " + b + ")", x.set(k, b), y.set(k, b));
                accept();
            }
            case 3 -> fields();
            case 4 -> {
                int n = chance(50) ? y.length() - random.nextInt(4) : oneOf(EDGES);
                due("trim(" + n + ")", x.trim(n), y.trim(n));
                accept();
            }
            case 5 -> {
                int w = random.nextInt();
                int n = random.nextInt(7) - 1;
                due("feed(" + w + ", " + n + ")", x.feed(w, n), y.feed(w, n));
                due("length()", x.length(), y.length());
            }
            case 6 -> {
                int from = chance(90) ? random.nextInt(y.length() + 2) - 1 : oneOf(EDGES);
                int to = chance(90) ? random.nextInt(y.length() + 2) : oneOf(EDGES);
                due("hash(" + from + ", " + to + ")", x.hash(from, to), y.hash(from, to));
            }
            case 7 -> {
                int i = random.nextInt(10) - 1;
                int j = random.nextInt(10) - 1;
                boolean p = chance(50);
                boolean q = chance(50);
                due("within(" + i + ", " + p + ", " + j + ", " + q + ")", x.within(i, p, j, q), y.within(i, p, j, q));
            }
            case 8 -> {
                int i = chance(90) ? random.nextInt(9) : oneOf(EDGES);
                due("recode(" + i + ")", x.recode(i), y.recode(i));
                sameBuffer();
            }
            case 9 -> {
                int i = chance(90) ? random.nextInt(9) : oneOf(EDGES);
                due("link(" + i + ")", x.link(i), y.link(i));
            }
            case 10 -> due("unlink()", x.unlink(), y.unlink());
            case 11 -> {
                due("links()", x.links(), y.links());
                due("count()", x.count(), y.count());
            }
            case 12 -> check();
            default -> {
                if (chance(10)) {
                    reset();
                }
                int k = chance(90) ? random.nextInt(y.length() + 2) - 1 : oneOf(EDGES);
                due("byteAt(" + k + ")", x.byteAt(k), y.byteAt(k));
            }
        }
    }

    private int[] randomCertificate() {
        while (true) {
            Draft d = new Draft().names(someName(), someName()).serial(random.nextInt() >>> 1 + random.nextInt(31));
            d.times(random.nextInt() >>> 1 + random.nextInt(31), random.nextInt() >>> 1 + random.nextInt(31));
            d.key(2 + (random.nextInt() >>> 2 + random.nextInt(30)), 1 + random.nextInt(1000));
            d.signature(random.nextInt() >>> 1 + random.nextInt(31));
            int n = random.nextInt(5);
            for (int k = 0; k < n; k++) {
                int kind = random.nextInt(4);
                d.with(kind == 0 ? authority() : kind == 1 ? usage(50) : kind == 2 ? bounds(someName())
                    : Encoding.extension(random.nextInt(256), chance(50), randomBytes(random.nextInt(23))));
            }
            if (d.bytes().length <= 160) {
                return d.bytes();
            }
        }
    }

    private int[] randomBytes(int size) {
        int[] row = new int[size];
        for (int k = 0; k < size; k++) {
            row[k] = random.nextInt(256);
        }
        return row;
    }

    private int[] spoiled(int[] bytes) {
        int[] row = bytes.clone();
        if (chance(40)) {
            return row;
        }
        for (int k = random.nextInt(3); k >= 0; k--) {
            int at = random.nextInt(row.length);
            int[] likely = {0, 1, 2, 3, 4, 19, 48, 97, 127, 128, 129, 160, 161, 163, 255, row[at] + 1 & 255, row[at] - 1 & 255};
            row[at] = oneOf(likely);
        }
        return row;
    }
}
