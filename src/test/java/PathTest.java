/** Promises 13 to 15 and 17: link, unlink, links and reset. */
public final class PathTest {
    private static final Due DUE = new Due();

    public static void main(String[] args) {
        linkAppends();
        linkRefusesWhatIsNotKept();
        linkRefusesASeventh();
        unlinkTakesTheLastOff();
        resetForgetsCertificatesAndPath();
        resetLeavesTheBuffer();
        resetOfANewObject();
        DUE.end();
    }

    /** Keeps certificates of which each one tells its place when the time is wrong for it alone. */
    private static CertificatePath withThree() {
        CertificatePath x = new CertificatePath();
        for (int i = 0; i < 3; i++) {
            new Draft().times(0, 10 * (i + 1)).key(2, 1).with(Encoding.authority()).signedBy(2, 1).keptBy(x);
        }
        return x;
    }

    private static void linkAppends() {
        CertificatePath x = withThree();
        DUE.answer("links of none", x.links(), 0);
        DUE.answer("link(2)", x.link(2), true);
        DUE.answer("links of one", x.links(), 1);
        DUE.answer("link(1)", x.link(1), true);
        DUE.answer("link(1) again", x.link(1), true);
        DUE.answer("link(0)", x.link(0), true);
        DUE.answer("links of four", x.links(), 4);
        DUE.answer("count stays", x.count(), 3);
        DUE.answer("all in time", x.check(0, 10, 0), 0);
        DUE.answer("the last too late", x.check(0, 11, 0), 16 * 3 + 2);
        DUE.answer("the second too late", x.check(0, 21, 0), 16 + 2);
        DUE.answer("the first too late", x.check(0, 31, 0), 2);
    }

    private static void linkRefusesWhatIsNotKept() {
        CertificatePath x = withThree();
        x.link(1);
        int[] noCertificate = {-1, 3, 7, 8, 9, Integer.MIN_VALUE, Integer.MAX_VALUE};
        for (int i : noCertificate) {
            DUE.answer("link(" + i + ")", x.link(i), false);
            DUE.answer("links after link(" + i + ")", x.links(), 1);
        }
        DUE.answer("the path stays", x.check(0, 21, 0), 2);
        DUE.answer("the path stays in time", x.check(0, 20, 0), 0);
    }

    private static void linkRefusesASeventh() {
        CertificatePath x = withThree();
        for (int k = 1; k <= 6; k++) {
            DUE.answer("link the " + k + "th", x.link(2), true);
            DUE.answer("links " + k, x.links(), k);
        }
        DUE.answer("a seventh", x.link(0), false);
        DUE.answer("links stay six", x.links(), 6);
        DUE.answer("the last one is no other", x.check(0, 30, 0), 0);
        x.unlink();
        DUE.answer("room again", x.link(0), true);
        DUE.answer("the last one is another", x.check(0, 30, 0), 16 * 5 + 2);
    }

    private static void unlinkTakesTheLastOff() {
        CertificatePath x = withThree();
        DUE.answer("unlink nothing", x.unlink(), false);
        DUE.answer("links stay 0", x.links(), 0);
        x.link(2);
        x.link(0);
        DUE.answer("before", x.check(1, 30, 0), 16 + 2);
        DUE.answer("unlink", x.unlink(), true);
        DUE.answer("links", x.links(), 1);
        DUE.answer("after", x.check(1, 30, 0), 0);
        DUE.answer("it stays kept", x.field(0, 2), 10);
        DUE.answer("count stays", x.count(), 3);
        DUE.answer("unlink the last", x.unlink(), true);
        DUE.answer("unlink nothing again", x.unlink(), false);
        DUE.answer("an empty path", x.check(1, 30, 0), -1);
        DUE.answer("links of none", x.links(), 0);
    }

    private static void resetForgetsCertificatesAndPath() {
        CertificatePath x = withThree();
        x.link(0);
        x.link(1);
        x.reset();
        DUE.answer("count", x.count(), 0);
        DUE.answer("links", x.links(), 0);
        DUE.answer("field", x.field(0, 0), -1);
        DUE.answer("within", x.within(0, false, 0, false), false);
        DUE.answer("recode", x.recode(0), -1);
        DUE.answer("link", x.link(0), false);
        DUE.answer("unlink", x.unlink(), false);
        DUE.answer("check", x.check(0, 0, 0), -1);
        DUE.answer("the next one is 0", new Draft().serial(9).keptBy(x), 0);
        DUE.answer("its serial", x.field(0, 0), 9);
        DUE.answer("no second one", x.field(1, 0), -1);
        DUE.answer("the path is empty", x.check(0, 50, 0), -1);
        for (int i = 1; i < 8; i++) {
            DUE.answer("one more", x.accept(), i);
        }
        DUE.answer("full", x.accept(), -2);
        x.reset();
        DUE.answer("0 when it was full", x.accept(), 0);
    }

    private static void resetLeavesTheBuffer() {
        CertificatePath x = withThree();
        Encoding.load(x, Encoding.bytes(1, 2, 3));
        x.reset();
        DUE.bytes("the buffer stays", x, 1, 2, 3);
        x.feed(4, 1);
        DUE.bytes("the buffer goes on", x, 1, 2, 3, 4);
    }

    private static void resetOfANewObject() {
        CertificatePath x = new CertificatePath();
        x.reset();
        x.reset();
        DUE.answer("count", x.count(), 0);
        DUE.answer("links", x.links(), 0);
        DUE.answer("length", x.length(), 0);
        DUE.answer("the first one", new Draft().keptBy(x), 0);
    }
}
