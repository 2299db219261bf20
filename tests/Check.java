import java.nio.charset.StandardCharsets;

/** What the tests share: due answers, and texts put on the tape. */
final class Check {
    private static int wrong = 0;
    private static int asked = 0;

    private Check() {
    }

    static void due(String what, long got, long want) {
        asked++;
        if (got != want) {
            wrong++;
            if (wrong <= 60) {
                System.out.println(what + " answered " + got + ", due is " + want);
            }
        }
    }

    static void due(String what, boolean got, boolean want) {
        due(what, got ? 1 : 0, want ? 1 : 0);
    }

    static void finish() {
        System.out.println(asked + " answers, " + wrong + " not as due");
        if (wrong != 0) {
            System.exit(1);
        }
    }

    /** Puts the bytes alone on the (empty) tape. */
    static void tape(NineTimes x, int... bytes) {
        int there = 0;
        for (int at = 0; at < bytes.length; at += 20) {
            int[] five = new int[5];
            for (int k = 0; k < 20; k++) {
                int octet = at + k < bytes.length ? bytes[at + k] : 0;
                five[k / 4] = five[k / 4] << 8 | octet & 255;
            }
            there = x.feed(five[0], five[1], five[2], five[3], five[4]);
        }
        if (there < bytes.length || !x.end(bytes.length)) {
            due("the tape's length", there, bytes.length);
        }
    }

    static void tape(NineTimes x, String text) {
        byte[] bytes = text.getBytes(StandardCharsets.ISO_8859_1);
        int[] octets = new int[bytes.length];
        for (int k = 0; k < octets.length; k++) {
            octets[k] = bytes[k] & 255;
        }
        tape(x, octets);
    }

    static int war(NineTimes x, String text) {
        tape(x, text);
        return x.war();
    }

    /** A new object of that WAR. */
    static NineTimes of(String text) {
        NineTimes x = new NineTimes();
        if (war(x, text) < 0) {
            due("war of " + text, x.fault(0) * 10000 + x.fault(1), 0);
        }
        return x;
    }

    static int[] image(NineTimes x) {
        int[] octets = new int[x.image()];
        for (int k = 0; k < octets.length; k++) {
            octets[k] = x.octet(k);
        }
        return octets;
    }

    /** The same image with another byte, its last byte made anew. */
    static int[] with(int[] image, int k, int octet) {
        int[] other = image.clone();
        other[k] = octet;
        int c = 181;
        for (int i = 0; i < other.length - 1; i++) {
            c = (5 * c + other[i]) % 251;
        }
        other[other.length - 1] = c;
        return other;
    }
}
