/** A path in the making, in which each certificate is signed by the key before it. */
final class Chain {
    static final int TIME = 50;

    final CertificatePath x = new CertificatePath();
    final int anchor;
    private final Due due;
    private long modulus = 101;
    private final long exponent = 3;

    Chain(Due due, String anchorName) {
        this.due = due;
        anchor = new Draft().names("other", anchorName).key(modulus, exponent).signature(77).keptBy(x);
    }

    /** The key of each one is another, so that a key that is not handed on shows. */
    Chain next(Draft d) {
        long signer = modulus;
        takeNextKey(d);
        return link(d.signedBy(signer, exponent));
    }

    Chain nextNotSigned(Draft d) {
        long signer = modulus;
        takeNextKey(d);
        return link(d.notSignedBy(signer, exponent));
    }

    private void takeNextKey(Draft d) {
        modulus = modulus == 101 ? 107 : modulus == 107 ? 113 : 101;
        d.key(modulus, exponent);
    }

    private Chain link(Draft d) {
        due.answer("link", x.link(d.keptBy(x)), true);
        return this;
    }

    void due(String what, int want) {
        due(what, TIME, 0, want);
    }

    void due(String what, int time, int usage, int want) {
        due.answer(what + ": check(" + anchor + ", " + time + ", " + usage + ")", x.check(anchor, time, usage), want);
    }
}
