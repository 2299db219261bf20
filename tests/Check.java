import java.nio.charset.StandardCharsets;

/** What the tests share: due answers, and texts put on the tape. */
final class Check {
    private static int wrong = 0;
    private static int asked = 0;

    private Check() {
    }

    static void due(String what, long got, long want) {
        asked++;
        if (got != want) {
            wrong++;
            if (wrong <= 60) {
                System.out.println(what + " answered " + got + ", due is " + want);
            }
        }
    }

    static void due(String what, boolean got, boolean want) {
        due(what, got ? 1 : 0, want ? 1 : 0);
    }

    static void finish() {
        System.out.println(asked + " answers, " + wrong + " not as due");
        if (wrong != 0) {
            System.exit(1);
        }
    }

    /** Puts the bytes alone on the (empty) tape. */
    static void tape(NineTimes x, int... bytes) {
        int there = 0;
        for (int at = 0; at < bytes.length; at += 20) {
            int[] five = new int[5];
            for (int k = 0; k < 20; k++) {
                int octet = at + k < bytes.length ? bytes[at + k] : 0;
                five[k / 4] = five[k / 4] << 8 | octet & 255;
            }
            there = x.feed(five[0], five[1], five[2], five[3], five[4]);
        }
        if (there < bytes.length || !x.end(bytes.length)) {
            due("the tape's length", there, bytes.length);
        }
    }

    static void tape(NineTimes x, String text) {
        byte[] bytes = text.getBytes(StandardCharsets.ISO_8859_1);
        int[] octets = new int[bytes.length];
        for (int k = 0; k < octets.length; k++) {
            octets[k] = bytes[k] & 255;
        }
        tape(x, octets);
    }

    static int war(NineTimes x, String text) {
        tape(x, text);
        return x.war();
    }

    /** A new object of that WAR. */
    static NineTimes of(String text) {
        NineTimes x = new NineTimes();
        if (war(x, text) < 0) {
            due("war of " + text, x.fault(0) * 10000 + x.fault(1), 0);
        }
        return x;
    }

    static int[] image(NineTimes x) {
        int[] octets = new int[x.image()];
        for (int k = 0; k < octets.length; k++) {
            octets[k] = x.octet(k);
        }
        return octets;
    }

    /** The same image with another byte, its last byte made anew. */
    static int[] with(int[] image, int k, int octet) {
        int[] other = image.clone();
        other[k] = octet;
        int c = 181;
        for (int i = 0; i < other.length - 1; i++) {
            c = (5 * c + other[i]) % 251;
        }
        other[other.length - 1] = c;
        return other;
    }

    /** The object goes on from its own image with other bytes: pairs of a place and a byte. */
    static void set(NineTimes x, int... pairs) {
        tape(x, with(image(x), pairs));
        due("on", x.on(), true);
    }

    static int[] with(int[] image, int[] pairs) {
        int[] other = image;
        for (int k = 0; k + 1 < pairs.length; k += 2) {
            other = with(other, pairs[k], pairs[k + 1]);
        }
        return other;
    }

    /** A call on an object, a boolean answer as 1 or 0. */
    interface Call {
        long ask(NineTimes x);
    }

    /** The call is refused: so it answers, one more is counted of its kind alone, and nothing else is changed. */
    static void refused(String what, NineTimes x, int kind, long answer, Call call) {
        String before = whole(x);
        int[] counts = counts(x);
        due(what, call.ask(x), answer);
        int[] after = counts(x);
        for (int k = 0; k < counts.length; k++) {
            due(what + " counted in status(" + k + ")", after[k] - counts[k], k == kind ? 1 : 0);
        }
        String now = whole(x);
        due(what + " leaves all as it was: " + before + " / " + now, now.equals(before), true);
    }

    private static int[] counts(NineTimes x) {
        int[] counts = new int[6];
        for (int k = 0; k < counts.length; k++) {
            counts[k] = x.status(k);
        }
        return counts;
    }

    /** All that the calls tell of what is so (some 120 calls for a small WAR). */
    static String whole(NineTimes x) {
        StringBuilder all = new StringBuilder();
        row(all, "has", 13, x::has);
        row(all, "who", 3, x::who);
        int counties = x.has(0);
        for (int c = 0; c < counties; c++) {
            int county = c;
            row(all, "county" + c, 4, k -> x.county(county, k));
            row(all, "name" + c, 1, k -> x.letter(0, county, k));
            row(all, "way" + c, counties, k -> x.way(county, k));
        }
        for (int m = 0; m < x.has(2); m++) {
            int man = m;
            row(all, "man" + m, 6, k -> x.man(man, k));
            row(all, "name" + m, 1, k -> x.letter(1, man, k));
            row(all, "known" + m, counties, k -> x.known(man, k));
            row(all, "later" + m, 4, k -> x.later(man, 9, k));
        }
        for (int n = 0; n < x.has(9); n++) {
            int kept = n;
            row(all, "kept" + n, 4, k -> x.kept(kept, k));
        }
        row(all, "image", 12, x::octet);
        return all.toString();
    }

    private static void row(StringBuilder all, String name, int n, java.util.function.IntUnaryOperator asked) {
        all.append(name).append(':');
        for (int k = 0; k < n; k++) {
            all.append(asked.applyAsInt(k)).append(k + 1 < n ? ',' : ' ');
        }
    }

    static String county(String name, int quota, int pays, int guard) {
        return "county " + name + " quota " + quota + " pays " + pays + " guard " + guard + ";";
    }

    static String rail(String from, String to, int weeks) {
        return "rail " + from + " to " + to + " weeks " + weeks + ";";
    }

    static String man(String name, String at, int signs) {
        return "man " + name + " at " + at + " signs " + signs + ";";
    }
}
