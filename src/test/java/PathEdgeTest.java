/**
 * Promises 13 to 15 and 17 at their boundaries: link, unlink, links and reset.
 * Each test stands under the words of the document that it holds the program to.
 */
public final class PathEdgeTest {
    private static final Due DUE = new Due();
    private static final int[] NEVER_KEPT = {-1, -2, 8, 9, Integer.MIN_VALUE, Integer.MAX_VALUE};

    public static void main(String[] args) {
        linkNeedsACertificate();
        linkTakesSixAtMost();
        linkAppends();
        thePathMayHaveTheSameOneSeveralTimes();
        unlinkTakesTheLastOneOff();
        whatIsUnlinkedStaysKept();
        unlinkOfAnEmptyPath();
        linksIsHowManyAreInThePath();
        resetForgetsAllCertificates();
        theNextOneIs0Again();
        resetEmptiesThePath();
        resetLeavesTheBuffer();
        resetOfWhatIsEmpty();
        DUE.end();
    }

    private static CertificatePath state(int count, int... path) {
        return Sight.state(count, path, new int[] {4, 5, 6});
    }

    /** Which certificates are in the path, told by the one that is the last as the others are taken off. */
    private static void path(String what, CertificatePath x, int... want) {
        DUE.answer(what + ": links()", x.links(), want.length);
        for (int p = want.length - 1; p >= 0; p--) {
            for (int k = 0; k < 3; k++) {
                boolean isIn = (want[p] >> k & 1) == 1;
                DUE.answer(what + ": place " + p + ", usage " + k, x.check(0, 50, 1 << k), isIn ? 0 : 16 * p + 9);
            }
            DUE.answer(what + ": unlink()", x.unlink(), true);
        }
        DUE.answer(what + ": nothing is left", x.unlink(), false);
    }

    /** Promise 13: "false, changing nothing, if there is no certificate i". */
    private static void linkNeedsACertificate() {
        for (int i : NEVER_KEPT) {
            DUE.answer("link(" + i + ") of eight", state(8, 1).link(i), false);
            DUE.answer("link(" + i + ") of none", new CertificatePath().link(i), false);
            Sight.unchanged(DUE, "link(" + i + ")", () -> state(8, 1, 2), x -> x.link(i));
        }
        DUE.answer("link(0) of none", new CertificatePath().link(0), false);
        DUE.answer("link(3) of three", state(3, 2, 1).link(3), false);
        Sight.unchanged(DUE, "link(3) of three", Sight::some, x -> x.link(3));
        DUE.answer("link(2) of three", state(3, 2, 1).link(2), true);
        DUE.answer("link(7) of eight", state(8, 2, 1).link(7), true);
    }

    /** Promise 13: "false, changing nothing, if .. six are in the path"; terms: "at most six". */
    private static void linkTakesSixAtMost() {
        CertificatePath x = state(8);
        int[] numbers = {7, 0, 3, 3, 5, 1};
        for (int p = 0; p < 6; p++) {
            DUE.answer("link at place " + p, x.link(numbers[p]), true);
            DUE.answer("links() behind place " + p, x.links(), p + 1);
        }
        DUE.answer("a seventh", x.link(2), false);
        DUE.answer("a seventh again", x.link(7), false);
        path("behind a seventh", x, numbers);
        Sight.unchanged(DUE, "a seventh link", Sight::full, y -> y.link(1));
        CertificatePath z = Sight.full();
        z.unlink();
        DUE.answer("there is room for one again", z.link(1), true);
        DUE.answer("and for no other", z.link(1), false);
    }

    /** Promise 13: "Appends certificate i to the path". */
    private static void linkAppends() {
        CertificatePath x = state(8);
        DUE.answer("link(6)", x.link(6), true);
        DUE.answer("link(1)", x.link(1), true);
        DUE.answer("link(4)", x.link(4), true);
        path("6, 1, 4", x, 6, 1, 4);
        DUE.answer("count() stays", x.count(), 8);
        DUE.bytes("the buffer stays", x, 4, 5, 6);
    }

    /** Terms: "perhaps with the same one several times, or with the anchor". */
    private static void thePathMayHaveTheSameOneSeveralTimes() {
        path("six times 7", state(8, 7, 7, 7, 7, 7, 7), 7, 7, 7, 7, 7, 7);
        path("the anchor", state(8, 0), 0);
        path("six times the anchor", state(1, 0, 0, 0, 0, 0, 0), 0, 0, 0, 0, 0, 0);
        path("the anchor between others", state(8, 3, 0, 3), 3, 0, 3);
    }

    /** Promise 14: "Takes the last one off the path". */
    private static void unlinkTakesTheLastOneOff() {
        CertificatePath x = state(8, 1, 2, 3);
        DUE.answer("unlink() of three", x.unlink(), true);
        DUE.answer("link(6) behind it", x.link(6), true);
        path("1, 2, 6", x, 1, 2, 6);
        CertificatePath full = Sight.full();
        for (int p = 5; p >= 0; p--) {
            DUE.answer("unlink() at place " + p, full.unlink(), true);
            DUE.answer("links() behind it", full.links(), p);
        }
        DUE.answer("unlink() of none", full.unlink(), false);
    }

    /** Promise 14: "it stays kept". */
    private static void whatIsUnlinkedStaysKept() {
        CertificatePath x = state(3, 2);
        x.unlink();
        DUE.answer("count() behind unlink()", x.count(), 3);
        DUE.text("behind link and unlink", Sight.of(x), Sight.of(state(3)));
        CertificatePath y = state(3, 2);
        y.unlink();
        DUE.answer("it is linked again", y.link(2), true);
        path("linked again", y, 2);
    }

    /** Promise 14: "false if it is empty". */
    private static void unlinkOfAnEmptyPath() {
        DUE.answer("new: unlink()", new CertificatePath().unlink(), false);
        DUE.answer("none linked: unlink()", state(3).unlink(), false);
        Sight.unchanged(DUE, "unlink() of an empty path", () -> state(3), CertificatePath::unlink);
        CertificatePath x = state(3);
        x.unlink();
        x.unlink();
        DUE.answer("links() stays 0", x.links(), 0);
        DUE.answer("link(1) behind it", x.link(1), true);
        path("behind unlink() of an empty path", x, 1);
    }

    /** Promise 15: "How many certificates are in the path." */
    private static void linksIsHowManyAreInThePath() {
        CertificatePath x = state(1);
        DUE.answer("links() of none", x.links(), 0);
        for (int count = 1; count <= 6; count++) {
            x.link(0);
            DUE.answer("links() of " + count, x.links(), count);
        }
        x.link(0);
        DUE.answer("links() behind a seventh", x.links(), 6);
        x.link(1);
        DUE.answer("links() behind one that is not kept", x.links(), 6);
        x.unlink();
        DUE.answer("links() behind unlink()", x.links(), 5);
    }

    /** Promise 17: "All certificates are gone". */
    private static void resetForgetsAllCertificates() {
        CertificatePath x = Sight.full();
        x.reset();
        DUE.answer("count() behind reset()", x.count(), 0);
        for (int i = 0; i < 8; i++) {
            DUE.answer("field(" + i + ", 0) behind reset()", x.field(i, 0), -1);
            DUE.answer("recode(" + i + ") behind reset()", x.recode(i), -1);
            DUE.answer("link(" + i + ") behind reset()", x.link(i), false);
            DUE.answer("within(" + i + ") behind reset()", x.within(i, false, i, false), false);
            DUE.answer("check(" + i + ") behind reset()", x.check(i, 50, 0), -1);
        }
        DUE.text("all behind reset()", Sight.of(x), Sight.of(state0(1, 2, 3)));
    }

    private static CertificatePath state0(int... buffer) {
        return Sight.state(0, new int[] {}, buffer);
    }

    /** Promise 17: "the next one accepted is 0 again". */
    private static void theNextOneIs0Again() {
        CertificatePath x = Sight.full();
        x.reset();
        for (int i = 0; i < 8; i++) {
            Encoding.load(x, Sight.numbered(7 - i).bytes());
            DUE.answer("accept() behind reset()", x.accept(), i);
        }
        DUE.answer("a ninth behind reset()", x.accept(), -2);
        CertificatePath y = Sight.state(1, new int[] {0}, new int[] {});
        y.reset();
        Draft plain = new Draft().names("", "");
        plain.keptBy(y);
        CertificatePath z = new CertificatePath();
        plain.keptBy(z);
        DUE.text("a plain one behind reset()", Sight.of(y), Sight.of(z));
    }

    /** Promise 17: "the path is empty". */
    private static void resetEmptiesThePath() {
        CertificatePath x = Sight.full();
        x.reset();
        DUE.answer("links() behind reset()", x.links(), 0);
        DUE.answer("unlink() behind reset()", x.unlink(), false);
        Sight.numbered(0).keptBy(x);
        DUE.answer("check(0, 50, 0) behind reset()", x.check(0, 50, 0), -1);
        for (int p = 0; p < 6; p++) {
            DUE.answer("link(0) behind reset()", x.link(0), true);
        }
        DUE.answer("a seventh behind reset()", x.link(0), false);
    }

    /** Promise 17: "the buffer stays". */
    private static void resetLeavesTheBuffer() {
        int[][] buffers = {{}, {0}, {1, 2, 3}, Encoding.repeated(200, 160), Sight.numbered(1).bytes()};
        for (int[] bytes : buffers) {
            CertificatePath x = Sight.state(2, new int[] {1}, bytes);
            x.reset();
            DUE.bytes("the buffer behind reset()", x, bytes);
        }
        CertificatePath x = Sight.state(8, new int[] {1}, Sight.numbered(1).bytes());
        DUE.answer("accept() before reset()", x.accept(), -2);
        x.reset();
        DUE.answer("accept() behind reset()", x.accept(), 0);
    }

    /** Promise 17, where there is nothing to forget. */
    private static void resetOfWhatIsEmpty() {
        Sight.unchanged(DUE, "reset() of a new object", CertificatePath::new, CertificatePath::reset);
        Sight.unchanged(DUE, "reset() of a buffer alone", () -> state0(7, 8), CertificatePath::reset);
    }
}
