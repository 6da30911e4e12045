/** Whether bytes are taken as a certificate: each time a new object is asked. */
final class Taken {
    private final Due due;

    Taken(Due due) {
        this.due = due;
    }

    void right(String what, Draft d) {
        right(what, d.bytes());
    }

    void wrong(String what, Draft d) {
        wrong(what, d.bytes());
    }

    void when(boolean isRight, String what, Draft d) {
        when(isRight, what, d.bytes());
    }

    void when(boolean isRight, String what, int[] bytes) {
        if (isRight) {
            right(what, bytes);
        } else {
            wrong(what, bytes);
        }
    }

    /** What is taken is also written again, so that a thing that was read amiss shows. */
    void right(String what, int[] bytes) {
        CertificatePath x = asked(what, bytes, 0);
        due.answer(what + ": count()", x.count(), 1);
        x.trim(0);
        due.answer(what + ": recode(0)", x.recode(0), bytes.length);
        due.bytes(what + ": made anew", x, bytes);
    }

    void wrong(String what, int[] bytes) {
        CertificatePath x = asked(what, bytes, -1);
        due.answer(what + ": count()", x.count(), 0);
    }

    private CertificatePath asked(String what, int[] bytes, int want) {
        CertificatePath x = new CertificatePath();
        Encoding.load(x, bytes);
        due.answer(what + ": fits into the buffer", x.length(), bytes.length);
        due.answer(what + ": accept()", x.accept(), want);
        due.answer(what + ": length() behind accept()", x.length(), bytes.length);
        due.answer(what + ": hash behind accept()", x.hash(0, bytes.length), Encoding.hash(bytes));
        return x;
    }
}
