public final class Example {
    private static final String ANCHOR = "3022301d0201013003130161300602010002016430031301613006020165020103020100";
    private static final String AUTHORITY = "30353030020102300313016130060201000201643006130161130162300602016b020103"
        + "a30e300c300a020101040530030101ff02012b";
    private static final String LAST = "303a30350201033006130161130162300602010002016430091301611301621301633006"
        + "020171020103a30d300b3009020102040403020780020115";

    public static void main(String[] args) {
        CertificatePath x = new CertificatePath();
        int anchor = keep(x, ANCHOR);
        int authority = keep(x, AUTHORITY);
        int last = keep(x, LAST);
        System.out.println("kept: " + anchor + ", " + authority + ", " + last);
        System.out.println("usage of the last: " + x.field(last, 9));

        x.link(authority);
        x.link(last);
        System.out.println("at time 50, for usage 0: " + x.check(anchor, 50, 1));
        System.out.println("at time 101, for usage 0: " + x.check(anchor, 101, 1));
        System.out.println("at time 50, for usage 1: " + x.check(anchor, 50, 2));
        System.out.println("by no anchor: " + x.check(7, 50, 1));
    }

    private static int keep(CertificatePath x, String hex) {
        x.trim(0);
        for (int k = 0; k < hex.length(); k += 2) {
            x.feed(Integer.parseInt(hex.substring(k, k + 2), 16), 1);
        }
        return x.accept();
    }
}
