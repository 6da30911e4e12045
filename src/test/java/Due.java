/** Counts and prints the answers that are not the ones that are due. */
final class Due {
    private int wrong = 0;

    void answer(String call, long got, long want) {
        if (got != want) {
            wrong++;
            System.out.println(call + " answered " + got + ", due is " + want);
        }
    }

    void answer(String call, boolean got, boolean want) {
        answer(call, got ? 1L : 0L, want ? 1L : 0L);
    }

    void text(String what, String got, String want) {
        if (!got.equals(want)) {
            wrong++;
            System.out.println(what + " is " + got + ", due is " + want);
        }
    }

    void bytes(String call, CertificatePath x, int... want) {
        answer(call + ": length()", x.length(), want.length);
        for (int k = 0; k < want.length; k++) {
            answer(call + ": byteAt(" + k + ")", x.byteAt(k), want[k]);
        }
    }

    void end() {
        System.out.println(wrong == 0 ? "all answers are as due" : wrong + " answers are not as due");
        if (wrong != 0) {
            System.exit(1);
        }
    }
}
