import java.util.ArrayList;
import java.util.List;

/** A certificate in the making: every part is bytes, so that a test can put in a wrong one. */
final class Draft {
    int[] serial = Encoding.integer(1);
    int[] issuer = Encoding.name("a");
    int[] times = Encoding.sequence(Encoding.integer(5), Encoding.integer(100));
    int[] subject = Encoding.name("a");
    int[] key = Encoding.sequence(Encoding.integer(2), Encoding.integer(1));
    /** What stands where the FOURTH may stand; null if it is made of the extensions. */
    int[] tail = null;
    final List<int[]> extensions = new ArrayList<>();
    int[] signature = Encoding.integer(0);

    Draft serial(long value) {
        serial = Encoding.integer(value);
        return this;
    }

    Draft names(String issuerName, String subjectName) {
        issuer = Encoding.name(issuerName);
        subject = Encoding.name(subjectName);
        return this;
    }

    Draft times(long from, long to) {
        times = Encoding.sequence(Encoding.integer(from), Encoding.integer(to));
        return this;
    }

    Draft key(long modulus, long exponent) {
        key = Encoding.sequence(Encoding.integer(modulus), Encoding.integer(exponent));
        return this;
    }

    Draft with(int[]... more) {
        extensions.addAll(List.of(more));
        return this;
    }

    Draft tail(int[]... parts) {
        tail = Encoding.join(parts);
        return this;
    }

    Draft signature(long value) {
        signature = Encoding.integer(value);
        return this;
    }

    /** Puts in the least signature that the key takes; there must be one. */
    Draft signedBy(long modulus, long exponent) {
        long want = bodyHash() % modulus;
        for (long s = 0; s < modulus; s++) {
            if (power(s, exponent, modulus) == want) {
                return signature(s);
            }
        }
        throw new IllegalStateException("no signature by " + modulus + ", " + exponent);
    }

    /** The same with a signature that the key does not take. */
    Draft notSignedBy(long modulus, long exponent) {
        long want = bodyHash() % modulus;
        for (long s = 0; s < modulus; s++) {
            if (power(s, exponent, modulus) != want) {
                return signature(s);
            }
        }
        throw new IllegalStateException("every signature is one by " + modulus + ", " + exponent);
    }

    static long power(long base, long exponent, long modulus) {
        long result = 1 % modulus;
        for (long k = 0; k < exponent; k++) {
            result = result * base % modulus;
        }
        return result;
    }

    int[] body() {
        int[] last = tail;
        if (last == null && extensions.isEmpty()) {
            last = Encoding.bytes();
        } else if (last == null) {
            last = Encoding.element(163, Encoding.sequence(extensions.toArray(new int[0][])));
        }
        return Encoding.sequence(serial, issuer, times, subject, key, last);
    }

    int bodyHash() {
        return Encoding.hash(body());
    }

    int[] bytes() {
        return Encoding.sequence(body(), signature);
    }

    /** Loads the draft and accepts it; the test goes on only if it is taken. */
    int keptBy(CertificatePath x) {
        Encoding.load(x, bytes());
        int number = x.accept();
        if (number < 0) {
            throw new IllegalStateException("a right certificate was not accepted: " + number);
        }
        return number;
    }
}
