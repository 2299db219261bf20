import java.lang.reflect.Method;
import java.lang.reflect.Modifier;

/** The bounds that promises 1 to 33 name, call by call: what is taken, what is refused, and that this changes nothing. */
public final class CallsBoundsTest {
    private static final int NONE = -1;
    private static final int[] OUTSIDE = {-1, -2, Integer.MIN_VALUE, Integer.MAX_VALUE};
    private static final String WAR = Check.county("ab", 2, 10, 2) + Check.county("c", 1, 20, 0) + Check.rail("ab", "c", 1)
        + Check.man("m", "ab", 1) + Check.man("nopqrs", "c", 6);

    private CallsBoundsTest() {
    }

    public static void main(String[] args) throws Exception {
        newObject();
        feedUpToItsRoom();
        feedHighestFirst();
        endOfWhatIsThere();
        warOfTheTape();
        warRefused();
        warAsAtFirst();
        faultOfTheLatest();
        hasOfEach();
        letters();
        counties();
        ways();
        men();
        known();
        later();
        caughtAndFilled();
        rounds();
        lured();
        best();
        staffed();
        see();
        who();
        weeks();
        chance();
        pay();
        guard();
        tell();
        undo();
        seed();
        kept();
        images();
        onFromItsBounds();
        onRefused();
        onAsItTells();
        status();
        nothingThrows();
        Check.finish();
    }

    private static void due(String what, long got, long want) {
        Check.due(what, got, want);
    }

    private static int one(boolean answer) {
        return answer ? 1 : 0;
    }

    /** With a past: WEEKS, ACTS, things KEPT, rows SEEN, an image. */
    private static NineTimes lived() {
        NineTimes x = Check.of(WAR);
        x.seed(99);
        x.weeks(3);
        x.pay(0, 11);
        Check.tape(x, 0, 1);
        x.see();
        x.image();
        return x;
    }

    /** The tape is empty. */
    private static void tapeWent(String what, NineTimes x) {
        due("the tape behind " + what, x.feed(0, 0, 0, 0, 0), 20);
        x.end(0);
    }

    private static void newObject() {
        NineTimes x = new NineTimes();
        for (int what = 0; what <= 12; what++) {
            due("has(" + what + ") of a new one", x.has(what), what == 12 ? 1 : 0);
        }
        for (int what = 0; what <= 5; what++) {
            due("status(" + what + ") of a new one", x.status(what), 0);
        }
        due("its FAULT", x.fault(0), 0);
        due("its FAULT's place", x.fault(1), NONE);
        due("no COUNTY", x.county(0, 0), NONE);
        due("no MAN", x.man(0, 0), NONE);
        due("no name", x.letter(0, 0, 0), NONE);
        due("no name", x.letter(1, 0, 0), NONE);
        due("no image", x.octet(0), NONE);
        due("nothing KEPT", x.kept(0, 0), NONE);
        due("all quotas are 0", x.filled(), 0);
        due("no MARKS", x.marks(), 0);
        due("nobody", x.who(0), 0);
        due("without TELLING", x.who(1), NONE);
        due("without any left", x.who(2), NONE);
        due("the tape", x.feed(0, 0, 0, 0, 0), 20);
    }

    /** Promise 2: NONE, refused (0), if there would be more than 1600. */
    private static void feedUpToItsRoom() {
        NineTimes x = new NineTimes();
        for (int k = 1; k <= 80; k++) {
            due("feed " + k, x.feed(0x20202020, 0x20202020, 0x20202020, 0x20202020, 0x20202020), 20 * k);
        }
        Check.refused("the 81st feed", x, 0, NONE, y -> y.feed(1, 2, 3, 4, 5));
        due("1600 are there", one(x.end(1600)), 1);
        due("of 1581", one(x.end(1581)), 1);
        Check.refused("feed to 1601", x, 0, NONE, y -> y.feed(1, 2, 3, 4, 5));
        due("1581 are there, no more", one(x.end(1582)), 0);
        due("of 1580", one(x.end(1580)), 1);
        due("feed to 1600", x.feed(0x20202020, 0x20202020, 0x20202020, 0x2020, 0x20202020), 1600);
        // what was refused is not on the tape: its first byte that is no blank is at 1592
        due("no WAR", x.war(), NONE);
        due("the place", x.fault(1), 1592);
        NineTimes y = new NineTimes();
        Check.tape(y, " ".repeat(1593) + "post 7;");
        due("a WAR of 1600 bytes", y.war(), 1);
        Check.tape(y, " ".repeat(1594) + "post 7");
        due("no WAR of 1600 bytes", y.war(), NONE);
        due("at the text's length", y.fault(1), 1600);
    }

    /** Of each number the highest first. */
    private static void feedHighestFirst() {
        String text = "post 1;post 2;post3;";
        for (int at = 0; at < 20; at++) {
            int[] five = {0x20202020, 0x20202020, 0x20202020, 0x20202020, 0x20202020};
            five[at / 4] = five[at / 4] & ~(255 << 24 - at % 4 * 8) | 0x80 + at << 24 - at % 4 * 8;
            NineTimes x = new NineTimes();
            due("feed", x.feed(five[0], five[1], five[2], five[3], five[4]), 20);
            due("no WAR", x.war(), NONE);
            due("the byte's place", x.fault(1), at);
        }
        NineTimes y = new NineTimes();
        Check.tape(y, text);
        due("no WAR", y.war(), NONE);
        due("the place", y.fault(1), 18);
        // behind those on the tape
        due("feed", y.feed(0x706f7374, 0x20313b0a, 0x0a0a0a0a, 0x0a0a0a0a, 0x0a0a0a0a), 20);
        due("feed", y.feed(0x20202020, 0x706f7374, 0x20323b20, 0x20202020, 0x20202020), 40);
        due("two", y.war(), 2);
    }

    /** Promise 3: refused (0), if it has not so many, or n is below 0. */
    private static void endOfWhatIsThere() {
        NineTimes x = new NineTimes();
        due("end(0) of none", one(x.end(0)), 1);
        Check.refused("end(1) of none", x, 0, 0, y -> one(y.end(1)));
        for (int n : new int[] {-1, Integer.MIN_VALUE, 15, 16, 20, 1600, Integer.MAX_VALUE}) {
            NineTimes z = lived();
            Check.tape(z, "post 1;post 2;");
            Check.refused("end(" + n + ") of 14", z, 0, 0, y -> one(y.end(n)));
            due("14 are there", one(z.end(14)), 1);
        }
        Check.tape(x, "post 1;post 2;");
        due("end(14) of 14", one(x.end(14)), 1);
        due("end(7) of 14", one(x.end(7)), 1);
        due("end(8) of 7", one(x.end(8)), 0);
        due("the first bytes alone", x.war(), 1);
        NineTimes y = new NineTimes();
        Check.tape(y, "post 1;post 2;");
        y.end(-1);
        y.end(15);
        due("what was refused cuts nothing", y.war(), 2);
        Check.tape(y, "post 1;");
        due("end(0)", one(y.end(0)), 1);
        due("nothing", y.war(), 0);
    }

    /** Promise 4: the tape (it goes) is THE WAR: how many STATEMENTS (0 without). */
    private static void warOfTheTape() {
        NineTimes x = new NineTimes();
        due("without", x.war(), 0);
        Check.tape(x, "post 1;post 2;");
        due("two", x.war(), 2);
        tapeWent("war()", x);
        due("the empty tape again", x.war(), 0);
        Check.tape(x, "post 1;post");
        due("no WAR", x.war(), NONE);
        tapeWent("a refused war()", x);
        due("nothing refused more", x.status(1), 1);
    }

    private static void warRefused() {
        String[] texts = {"x", "post", "post 10;", WAR + "x", "county q quota 20 pays 999 guard 9;man r at q signs 63;x",
            "county q quota 1 pays 1 guard 1;county q", "jumps not all;likes 5;post 9;x", "post 1;".repeat(81)};
        for (String text : texts) {
            NineTimes x = lived();
            Check.tape(x, text);
            Check.refused("war of " + text, x, 1, NONE, NineTimes::war);
            tapeWent("a refused war", x);
            due("the ACT can be undone", one(x.undo()), 1);
            due("it paid", x.county(0, 1), 10);
            // the old jumps, likes and post hold: on from here as without the refused text
            NineTimes other = lived();
            other.undo();
            x.weeks(7);
            other.weeks(7);
            x.image();
            other.image();
            for (int k = 0; k < 27; k++) {
                due("byte " + k + " behind " + text, x.octet(k), other.octet(k));
            }
        }
    }

    /** Without a FAULT all is as at first, nothing is KEPT or SEEN, no ACT can be undone; the seed stays. */
    private static void warAsAtFirst() {
        NineTimes x = lived();
        due("some KEPT", one(x.has(9) > 0), 1);
        due("some SEEN", x.has(10), 1);
        due("some ACTS", x.has(11), 2);
        Check.tape(x, WAR);
        due("the WAR again", x.war(), 5);
        NineTimes fresh = Check.of(WAR);
        for (int what = 0; what <= 12; what++) {
            due("has(" + what + ") as at first", x.has(what), what == 12 ? 99 : fresh.has(what));
        }
        due("no undo", one(x.undo()), 0);
        due("all MEN", x.who(0), 3);
        x.image();
        fresh.image();
        for (int k = 0; k < 27; k++) {
            due("byte " + k + " as at first", x.octet(k), fresh.octet(k));
        }
        // of an earlier WAR nothing is left: neither jumps nor likes, post, RAILS, LETTERS
        NineTimes y = Check.of(WAR + "jumps not all;likes 0-pays;post 9;");
        Check.tape(y, Check.county("a", 1, 0, 0) + Check.county("b", 0, 0, 0) + Check.man("m", "a", 1));
        due("another WAR", y.war(), 3);
        due("no RAIL", y.has(1), 0);
        due("no way", y.way(0, 1), NONE);
        y.weeks(2);
        due("he JUMPS", y.man(0, 1), 0);
        due("post 2", y.known(0, 0), 1);
        Check.tape(y, Check.county("a", 1, 0, 0) + Check.county("b", 0, 5, 0) + Check.county("c", 0, 9, 0)
            + Check.rail("a", "b", 1) + Check.rail("a", "c", 1) + Check.man("m", "a", 1));
        due("a third WAR", y.war(), 6);
        due("two RAILS", y.has(1), 2);
        due("no LETTER", y.known(0, 0), NONE);
        y.weeks(2);
        due("he JUMPS", y.man(0, 1), 1);
        due("by what it pays", y.man(0, 0), 2);
        due("post 2", y.known(0, 0), 1);
        menAsAtFirst();
        Check.tape(y, "");
        due("the empty WAR", y.war(), 0);
        for (int what = 0; what <= 11; what++) {
            due("has(" + what + ") of the empty WAR", y.has(what), 0);
        }
        due("no COUNTY", y.county(0, 0), NONE);
        due("no MAN", y.man(0, 0), NONE);
    }

    /** Whatever they were: on the ROAD, in the TRAIN, CAUGHT, at the FRONT. */
    private static void menAsAtFirst() {
        String text = Check.county("a", 5, 7, 0) + Check.county("b", 0, 9, 0) + Check.rail("a", "b", 3);
        for (int k = 0; k < 4; k++) {
            text += Check.man("m" + (char) ('a' + k), "a", k);
        }
        NineTimes x = Check.of(text);
        int man = 2 + 8;
        Check.set(x, man + 1, 1, man + 2, 9, man, 1, man + 8 + 1, 2, man + 16 + 1, 3, man + 24 + 1, 4, man + 24 + 3, 9,
            man + 24 + 4, 39);
        Check.tape(x, text);
        due("the WAR again", x.war(), 7);
        for (int m = 0; m < 4; m++) {
            for (int what = 0; what < 6; what++) {
                due("man(" + m + ", " + what + ") as at first", x.man(m, what), what == 5 ? m : 0);
            }
        }
    }

    /** Promise 5. */
    private static void faultOfTheLatest() {
        NineTimes x = new NineTimes();
        int[][] due = {{0, NONE}, {4, 5}, {1, 4}, {0, NONE}, {6, 8}, {0, NONE}};
        String[] texts = {"post 9;", "post 10;", "post", "", "likes 1;likes 1;", "post 1;"};
        due("ahead of any", x.fault(0), 0);
        due("ahead of any", x.fault(1), NONE);
        for (int k = 0; k < texts.length; k++) {
            Check.tape(x, texts[k]);
            x.war();
            due("FAULT of " + texts[k], x.fault(0), due[k][0]);
            due("place of " + texts[k], x.fault(1), due[k][1]);
            for (int what : new int[] {-1, 2, Integer.MIN_VALUE, Integer.MAX_VALUE}) {
                due("fault(" + what + ")", x.fault(what), NONE);
            }
        }
        Check.tape(x, "post 10;");
        x.war();
        x.undo();
        x.weeks(1);
        x.on();
        due("nothing else changes it", x.fault(0) * 10 + x.fault(1), 45);
    }

    /** Promise 6. */
    private static void hasOfEach() {
        NineTimes x = lived();
        // m ENLISTS in WEEK 0, JUMPS in 1, FREE in c in 2; n the other way round
        int[] due = {2, 1, 2, 3, 1, 0, 0, 2, 30, 4, 1, 2, 99};
        for (int what = 0; what < due.length; what++) {
            due("has(" + what + ")", x.has(what), due[what]);
        }
        for (int what : new int[] {13, 14, -1, Integer.MIN_VALUE, Integer.MAX_VALUE}) {
            due("has(" + what + ")", x.has(what), NONE);
        }
        Check.set(x, 11, 3, 20 - 1, 4);
        due("one CAUGHT", x.has(5), 1);
        due("one at the FRONT", x.has(6), 1);
    }

    /** Promise 7: letter k (0 .. 5): 1 .. 26; 0 behind it. */
    private static void letters() {
        NineTimes x = Check.of(Check.county("a", 0, 0, 0) + Check.county("zzzzzz", 0, 0, 0) + Check.county("azmnba", 0, 0, 0)
            + Check.man("z", "a", 0) + Check.man("aaaaaa", "a", 0));
        int[][] county = {{1, 0, 0, 0, 0, 0}, {26, 26, 26, 26, 26, 26}, {1, 26, 13, 14, 2, 1}};
        int[][] man = {{26, 0, 0, 0, 0, 0}, {1, 1, 1, 1, 1, 1}};
        for (int k = 0; k < 6; k++) {
            for (int c = 0; c < 3; c++) {
                due("letter(0, " + c + ", " + k + ")", x.letter(0, c, k), county[c][k]);
            }
            for (int m = 0; m < 2; m++) {
                due("letter(1, " + m + ", " + k + ")", x.letter(1, m, k), man[m][k]);
            }
        }
        for (int out : OUTSIDE) {
            due("kind " + out, x.letter(out, 0, 0), NONE);
            due("COUNTY " + out, x.letter(0, out, 0), NONE);
            due("MAN " + out, x.letter(1, out, 0), NONE);
            due("k " + out, x.letter(0, 0, out), NONE);
            due("k " + out, x.letter(1, 0, out), NONE);
        }
        due("k 6", x.letter(0, 0, 6), NONE);
        due("k 6", x.letter(1, 1, 6), NONE);
        due("COUNTY 3", x.letter(0, 3, 0), NONE);
        due("MAN 2", x.letter(1, 2, 0), NONE);
        due("kind 2", x.letter(2, 0, 0), NONE);
    }

    /** Promise 8. */
    private static void counties() {
        NineTimes x = Check.of(WAR);
        int[][] due = {{2, 10, 2, 0}, {1, 20, 0, 0}};
        for (int county = 0; county < 2; county++) {
            for (int what = 0; what < 4; what++) {
                due("county(" + county + ", " + what + ")", x.county(county, what), due[county][what]);
            }
            due("what 4", x.county(county, 4), NONE);
        }
        for (int out : OUTSIDE) {
            due("COUNTY " + out, x.county(out, 0), NONE);
            due("what " + out, x.county(0, out), NONE);
        }
        for (int what = 0; what < 4; what++) {
            due("COUNTY 2", x.county(2, what), NONE);
        }
        x.tell(0, 1);
        due("one KNOWN", x.county(1, 3), 1);
        x.tell(1, 1);
        due("both KNOWN", x.county(1, 3), 3);
        due("not there", x.county(0, 3), 0);
    }

    /** Promise 9: NONE when there is none, or there are none such. */
    private static void ways() {
        NineTimes x = Check.of(WAR + Check.county("d", 0, 0, 0));
        due("the way", x.way(0, 1), 1);
        due("back", x.way(1, 0), 1);
        due("none", x.way(0, 2), NONE);
        due("none back", x.way(2, 1), NONE);
        due("to itself", x.way(2, 2), 0);
        due("from none such", x.way(3, 0), NONE);
        due("to none such", x.way(0, 3), NONE);
        due("none such to itself", x.way(3, 3), NONE);
        for (int out : OUTSIDE) {
            due("from " + out, x.way(out, 0), NONE);
            due("to " + out, x.way(0, out), NONE);
            due("from and to " + out, x.way(out, out), NONE);
        }
    }

    /** Promise 10. */
    private static void men() {
        NineTimes x = lived();
        int[][] due = {{1, 0, 0, 1, 10, 1}, {0, 0, 0, 1, 20, 6}};
        for (int man = 0; man < 2; man++) {
            for (int what = 0; what < 6; what++) {
                due("man(" + man + ", " + what + ")", x.man(man, what), due[man][what]);
            }
            due("what 6", x.man(man, 6), NONE);
        }
        for (int out : OUTSIDE) {
            due("MAN " + out, x.man(out, 0), NONE);
            due("what " + out, x.man(0, out), NONE);
        }
        due("MAN 2", x.man(2, 5), NONE);
        // to which he goes, on the ROAD: WEEKS left
        x.undo();
        x.undo();
        x.weeks(2);
        due("to which he goes", x.man(0, 0), 1);
        due("on the ROAD", x.man(0, 1), 1);
        due("WEEKS left", x.man(0, 2), 1);
    }

    /** Promise 11: NONE when none is sent there, or there are none such. */
    private static void known() {
        NineTimes x = lived();
        // both JUMPED in WEEK 1: there in WEEK 3, a way of 1 farther in WEEK 4
        due("known(0, 0)", x.known(0, 0), 0);
        due("known(0, 1)", x.known(0, 1), 1);
        due("known(1, 0)", x.known(1, 0), 1);
        due("known(1, 1)", x.known(1, 1), 0);
        due("MAN 2", x.known(2, 0), NONE);
        due("COUNTY 2", x.known(0, 2), NONE);
        for (int out : OUTSIDE) {
            due("MAN " + out, x.known(out, 0), NONE);
            due("COUNTY " + out, x.known(0, out), NONE);
        }
        NineTimes y = Check.of(WAR + Check.man("o", "c", 6));
        y.tell(1, 0);
        due("a LETTER that tells of himself", y.known(1, 0), 0);
        due("none that tells of one of like signs", y.known(2, 0), NONE);
        due("both are KNOWN", y.county(0, 3), 6);
        due("none sent there", y.known(1, 1), NONE);
    }

    /** Promise 12: n 0 .. 80. */
    private static void later() {
        NineTimes x = Check.of(WAR);
        int[] n = {0, 1, 2, 80};
        int[][] due = {{0, 0, 0, 0}, {2, 0, 1, 10}, {1, 1, 1, 10}, {3, 0, 1, 10}};
        for (int k = 0; k < n.length; k++) {
            for (int what = 0; what < 4; what++) {
                due("later(0, " + n[k] + ", " + what + ")", x.later(0, n[k], what), due[k][what]);
            }
        }
        due("n 81", x.later(0, 81, 0), NONE);
        due("what 4", x.later(0, 0, 4), NONE);
        due("MAN 2", x.later(2, 0, 0), NONE);
        for (int out : OUTSIDE) {
            due("MAN " + out, x.later(out, 0, 0), NONE);
            due("n " + out, x.later(0, out, 0), NONE);
            due("what " + out, x.later(0, 0, out), NONE);
        }
        due("nothing refused", x.status(2) + x.status(5), 0);
    }

    /** Promises 13 and 14: behind how many WEEKS AHEAD (0: now). */
    private static void caughtAndFilled() {
        // m: c is full in WEEK 3, back in ab, CAUGHT there in WEEK 5; n ENLISTS in ab in WEEK 3, CAUGHT in c in WEEK 6
        NineTimes x = Check.of(WAR);
        for (int week = 0; week <= 8; week++) {
            due("m CAUGHT, of WEEK " + week, x.caught(0), Math.max(0, 6 - week));
            due("n CAUGHT, of WEEK " + week, x.caught(1), Math.max(0, 7 - week));
            due("all quotas 0, of WEEK " + week, x.filled(), Math.max(0, 4 - week));
            x.weeks(1);
        }
        due("MAN 2", x.caught(2), NONE);
        for (int out : OUTSIDE) {
            due("MAN " + out, x.caught(out), NONE);
        }
        NineTimes y = Check.of(WAR + "jumps not all;");
        due("he is not", y.caught(0), NONE);
        due("they are not", y.filled(), NONE);
    }

    /** Promise 15: k 0 .. 5. */
    private static void rounds() {
        NineTimes x = Check.of(WAR);
        int[] due = {0, 1, NONE, NONE, 30, 2};
        for (int k = 0; k < 6; k++) {
            due("round(0, " + k + ")", x.round(0, k), due[k]);
        }
        due("k 6", x.round(0, 6), NONE);
        due("MAN 2", x.round(2, 0), NONE);
        for (int out : OUTSIDE) {
            due("MAN " + out, x.round(out, 0), NONE);
            due("k " + out, x.round(0, out), NONE);
        }
        x.weeks(1);
        for (int k = 0; k < 6; k++) {
            due("he is not FREE, k " + k, x.round(0, k), NONE);
        }
        x.undo();
        Check.set(x, 2, 0, 6, 0);
        for (int k = 0; k < 6; k++) {
            due("there is none, k " + k, x.round(0, k), NONE);
        }
    }

    /** Promise 16. */
    private static void lured() {
        NineTimes x = Check.of(WAR);
        due("to c", x.lured(0, 1), 0);
        due("where he is", x.lured(0, 0), NONE);
        due("to ab", x.lured(1, 0), 0);
        due("where he is", x.lured(1, 1), NONE);
        due("MAN 2", x.lured(2, 0), NONE);
        due("COUNTY 2", x.lured(0, 2), NONE);
        for (int out : OUTSIDE) {
            due("MAN " + out, x.lured(out, 1), NONE);
            due("COUNTY " + out, x.lured(0, out), NONE);
        }
        x.weeks(1);
        due("he is not FREE", x.lured(0, 1), NONE);
    }

    /** Promise 17: n 1 .. 40. */
    private static void best() {
        NineTimes x = Check.of(WAR);
        due("n 1", x.best(0, 1, 0), 0);
        due("left by it", x.best(0, 1, 1), 1);
        due("n 40", x.best(0, 40, 0), 0);
        due("left by it", x.best(0, 40, 1), 0);
        due("n 0", x.best(0, 0, 0), NONE);
        due("n 41", x.best(0, 41, 0), NONE);
        due("what 2", x.best(0, 1, 2), NONE);
        due("COUNTY 2", x.best(2, 1, 0), NONE);
        for (int out : OUTSIDE) {
            due("COUNTY " + out, x.best(out, 1, 0), NONE);
            due("n " + out, x.best(0, out, 0), NONE);
            due("what " + out, x.best(0, 1, out), NONE);
        }
        due("it pays", x.county(0, 1), 10);
    }

    /** Promise 19: n 0 .. 99. */
    private static void staffed() {
        NineTimes x = Check.of(WAR);
        due("n 0", x.staffed(0), 3);
        due("n 1", x.staffed(1), 1);
        due("n 99", x.staffed(99), 1);
        due("n 100", x.staffed(100), NONE);
        for (int out : OUTSIDE) {
            due("n " + out, x.staffed(out), NONE);
        }
    }

    /** Promise 20: 1 to 16 rows of two bytes; the tape goes. */
    private static void see() {
        for (int rows = 1; rows <= 16; rows++) {
            NineTimes x = Check.of(WAR);
            int[] bytes = new int[2 * rows];
            for (int k = 0; k < rows; k++) {
                bytes[2 * k] = k % 6;
            }
            Check.tape(x, bytes);
            due("see of " + rows, x.see(), rows);
            due("rows SEEN", x.has(10), rows);
            tapeWent("see()", x);
            due("nothing refused", x.status(5), 0);
        }
        int[][] bad = {{}, {0}, {0, 0, 0}, new int[31], new int[33], new int[34], new int[1600], {6, 0}, {6, 1}, {255, 0},
            {0, 2}, {5, 2}, {0, 255}, {5, 1, 6, 1}, {5, 1, 5, 2}};
        for (int[] bytes : bad) {
            NineTimes x = lived();
            Check.tape(x, bytes);
            Check.refused("see of " + bytes.length + " bytes " + (bytes.length > 1 ? bytes[0] * 1000 + bytes[1] : 0), x, 5, NONE,
                NineTimes::see);
            tapeWent("a refused see()", x);
            due("SEEN stays", x.who(0), 1);
        }
        int[][] good = {{0, 0}, {0, 1}, {5, 0}, {5, 1}};
        for (int[] bytes : good) {
            NineTimes x = lived();
            Check.tape(x, bytes);
            due("see of " + bytes[0] + " " + bytes[1], x.see(), 1);
        }
    }

    /** Promise 21: all, if there was none; the latest see() of this WAR that was not refused. */
    private static void who() {
        NineTimes x = Check.of(WAR);
        due("all", x.who(0), 3);
        due("TELLING", x.who(1), 0);
        due("left at the most", x.who(2), 1);
        due("what 3", x.who(3), NONE);
        for (int out : OUTSIDE) {
            due("what " + out, x.who(out), NONE);
        }
        Check.tape(x, 1, 1);
        x.see();
        due("the second one", x.who(0), 2);
        due("TELLING of one", x.who(1), 0);
        due("left at the most", x.who(2), 1);
        x.see();
        due("a refused see() changes nothing", x.who(0), 2);
        Check.tape(x, 1, 0, 0, 0);
        x.see();
        due("nobody", x.who(0), 0);
        due("without TELLING", x.who(1), NONE);
        due("without any left", x.who(2), NONE);
        Check.tape(x, WAR);
        x.war();
        due("of this WAR", x.who(0), 3);
        NineTimes none = Check.of(Check.county("a", 0, 0, 0));
        due("no MEN", none.who(0), 0);
        due("no MEN", none.who(1), NONE);
        due("no MEN", none.who(2), NONE);
    }

    private static NineTimes inWeek(int week) {
        NineTimes x = Check.of(WAR);
        Check.set(x, 0, week / 256, 1, week % 256);
        x.pay(1, 21);
        return x;
    }

    /** Promise 22: n 1 .. 100; refused (2), when it can't be (beyond WEEK 999). */
    private static void weeks() {
        NineTimes x = Check.of(WAR);
        due("1 WEEK: both ENLIST", x.weeks(1), 2);
        due("WEEK 1", x.has(3), 1);
        due("100 WEEKS: one ENLISTS", x.weeks(100), 1);
        due("WEEK 101", x.has(3), 101);
        due("two ACTS", x.has(11), 2);
        for (int n : new int[] {0, 101, -1, Integer.MIN_VALUE, Integer.MAX_VALUE}) {
            Check.refused("weeks(" + n + ")", lived(), 2, NONE, y -> y.weeks(n));
        }
        int[][] rows = {{899, 100}, {900, 99}, {950, 49}, {998, 1}};
        for (int[] row : rows) {
            Check.refused("weeks(" + (row[1] + 1) + ") in " + row[0], inWeek(row[0]), 2, NONE, y -> y.weeks(row[1] + 1));
            NineTimes y = inWeek(row[0]);
            due("weeks(" + row[1] + ") in " + row[0], one(y.weeks(row[1]) >= 0), 1);
            due("WEEK 999", y.has(3), 999);
            Check.refused("weeks(1) in 999", y, 2, NONE, z -> z.weeks(1));
        }
    }

    /** Promise 23: n 1 .. 100, one ACT. */
    private static void chance() {
        NineTimes x = Check.of(WAR);
        due("1 WEEK", x.chance(1), 0);
        due("100 WEEKS", one(x.chance(100) >= 0), 1);
        due("WEEK 101", x.has(3), 101);
        due("two ACTS", x.has(11), 2);
        long seed = x.has(12);
        x.undo();
        due("back", x.has(3), 1);
        due("the seed stays", x.has(12), seed);
        for (int n : new int[] {0, 101, -1, Integer.MIN_VALUE, Integer.MAX_VALUE}) {
            Check.refused("chance(" + n + ")", lived(), 2, NONE, y -> y.chance(n));
        }
        int[][] rows = {{899, 100}, {900, 99}, {998, 1}};
        for (int[] row : rows) {
            Check.refused("chance(" + (row[1] + 1) + ") in " + row[0], inWeek(row[0]), 2, NONE, y -> y.chance(row[1] + 1));
            NineTimes y = inWeek(row[0]);
            due("chance(" + row[1] + ") in " + row[0], one(y.chance(row[1]) >= 0), 1);
            due("WEEK 999", y.has(3), 999);
            Check.refused("chance(1) in 999", y, 2, NONE, z -> z.chance(1));
        }
        // how many guards took: of all WEEKS together
        NineTimes both = Check.of(Check.county("a", 9, 0, 9) + Check.man("m", "a", 1) + Check.man("n", "a", 2) + "post 9;");
        int taken = both.chance(50);
        due("as many as at the FRONT", taken, both.has(6));
        due("some", one(taken > 0), 1);
    }

    /** Promise 24: 0 .. 999; refused (3), when it does so already. */
    private static void pay() {
        NineTimes x = Check.of(WAR);
        for (int much : new int[] {0, 999, 1, 998}) {
            due("pay(1, " + much + ")", one(x.pay(1, much)), 1);
            due("it pays", x.county(1, 1), much);
            due("the other one", x.county(0, 1), 10);
        }
        due("four ACTS", x.has(11), 4);
        for (int much : new int[] {1000, 11, -1, Integer.MIN_VALUE, Integer.MAX_VALUE}) {
            Check.refused("pay(0, " + much + ")", lived(), 3, 0, y -> one(y.pay(0, much)));
        }
        for (int county : new int[] {2, 7, -1, Integer.MIN_VALUE, Integer.MAX_VALUE}) {
            Check.refused("pay(" + county + ", 5)", lived(), 3, 0, y -> one(y.pay(county, 5)));
        }
    }

    /** Promise 25: 0 .. 9; refused (3), when it has already. */
    private static void guard() {
        NineTimes x = Check.of(WAR);
        for (int much : new int[] {9, 0, 8, 1}) {
            due("guard(1, " + much + ")", one(x.guard(1, much)), 1);
            due("it has", x.county(1, 2), much);
            due("the other one", x.county(0, 2), 2);
        }
        due("four ACTS", x.has(11), 4);
        for (int much : new int[] {10, 2, -1, Integer.MIN_VALUE, Integer.MAX_VALUE}) {
            Check.refused("guard(0, " + much + ")", lived(), 3, 0, y -> one(y.guard(0, much)));
        }
        for (int county : new int[] {2, 7, -1, Integer.MIN_VALUE, Integer.MAX_VALUE}) {
            Check.refused("guard(" + county + ", 5)", lived(), 3, 0, y -> one(y.guard(county, 5)));
        }
    }

    /** Promise 26: refused (3), when a LETTER that tells of him himself is there. */
    private static void tell() {
        // there in ab; in c in one WEEK
        Check.refused("a LETTER is there", lived(), 3, 0, y -> one(y.tell(0, 0)));
        NineTimes x = lived();
        due("a LETTER comes in a WEEK", one(x.tell(0, 1)), 1);
        due("it is there", x.known(0, 1), 0);
        due("one ACT more", x.has(11), 3);
        Check.refused("told already", x, 3, 0, y -> one(y.tell(0, 1)));
        due("undone", one(x.undo()), 1);
        due("it comes in a WEEK", x.known(0, 1), 1);
        for (int out : new int[] {2, 6, 7, -1, Integer.MIN_VALUE, Integer.MAX_VALUE}) {
            Check.refused("MAN " + out, lived(), 3, 0, y -> one(y.tell(out, 0)));
            Check.refused("COUNTY " + out, lived(), 3, 0, y -> one(y.tell(0, out)));
        }
        // a LETTER of one of like signs is none of himself
        NineTimes z = Check.of(WAR + Check.man("o", "c", 6));
        due("TOLD OF", one(z.tell(1, 0)), 1);
        due("TOLD OF, too", one(z.tell(2, 0)), 1);
        due("none sent elsewhere", z.known(1, 1), NONE);
        // one who is CAUGHT may be TOLD OF
        NineTimes w = Check.of(WAR);
        Check.set(w, 11, 3);
        due("one CAUGHT", one(w.tell(0, 0)), 1);
    }

    /** Promise 27: all is as it was ahead of it (but the seed); refused (4), when none can be. */
    private static void undo() {
        NineTimes none = Check.of(WAR);
        Check.refused("none ahead of any", none, 4, 0, y -> one(y.undo()));
        String[] acts = {"weeks", "chance", "pay", "guard", "tell"};
        for (String act : acts) {
            NineTimes x = lived();
            String before = Check.whole(x);
            x.seed(77);
            switch (act) {
                case "weeks": x.weeks(5); break;
                case "chance": x.chance(5); break;
                case "pay": x.pay(1, 5); break;
                case "guard": x.guard(1, 5); break;
                default: x.tell(0, 1); break;
            }
            due("three ACTS", x.has(11), 3);
            long seed = x.has(12);
            due("undo " + act, one(x.undo()), 1);
            due("the seed stays", x.has(12), seed);
            x.seed(99);
            String after = Check.whole(x);
            Check.due("undo " + act + ": " + before + " / " + after, after.equals(before), true);
        }
        NineTimes x = lived();
        due("undo", one(x.undo()), 1);
        due("undo", one(x.undo()), 1);
        Check.refused("none behind all", x, 4, 0, y -> one(y.undo()));
        due("at first", x.has(3) + x.has(9) + x.has(7), 0);
    }

    /** Promise 28: refused (5), when it is below 0. */
    private static void seed() {
        NineTimes x = lived();
        for (int seed : new int[] {0, 1, Integer.MAX_VALUE, 0}) {
            due("seed(" + seed + ")", one(x.seed(seed)), 1);
            due("the seed", x.has(12), seed);
        }
        due("no ACT", x.has(11), 2);
        Check.refused("seed(-1)", lived(), 5, 0, y -> one(y.seed(-1)));
        Check.refused("seed(MIN)", lived(), 5, 0, y -> one(y.seed(Integer.MIN_VALUE)));
    }

    /** Promise 29. */
    private static void kept() {
        NineTimes x = lived();
        int[][] due = {{0, 0, 0, 1}, {0, 1, 1, 1}, {1, 0, 0, 2}, {1, 1, 1, 2}};
        for (int k = 0; k < 4; k++) {
            for (int what = 0; what < 4; what++) {
                due("kept(" + k + ", " + what + ")", x.kept(k, what), due[k][what]);
            }
            due("what 4", x.kept(k, 4), NONE);
        }
        due("none such", x.kept(4, 0), NONE);
        for (int out : OUTSIDE) {
            due("k " + out, x.kept(out, 0), NONE);
            due("what " + out, x.kept(0, out), NONE);
        }
        due("none of a new WAR", Check.of(WAR).kept(0, 0), NONE);
    }

    /** Promises 30 and 31. */
    private static void images() {
        NineTimes x = Check.of(WAR);
        due("none yet", x.octet(0), NONE);
        due("bytes", x.image(), 27);
        due("the first", x.octet(0), 0);
        due("the last", one(x.octet(26) >= 0), 1);
        due("behind it", x.octet(27), NONE);
        for (int out : OUTSIDE) {
            due("octet(" + out + ")", x.octet(out), NONE);
        }
        x.weeks(9);
        due("of the latest image", x.octet(1), 0);
        x.image();
        due("of the latest image", x.octet(1), 9);
        x.undo();
        due("undo leaves it", x.octet(1), 9);
        StringBuilder text = new StringBuilder();
        for (int k = 0; k < 7; k++) {
            text.append(Check.county("c" + (char) ('a' + k), 20, 999, 9));
        }
        for (int k = 0; k < 6; k++) {
            text.append(Check.man("m" + (char) ('a' + k), "cg", 63));
        }
        NineTimes most = Check.of(text.toString());
        due("the most bytes", most.image(), 2 + 7 * 4 + 6 * (6 + 7) + 1);
        due("the last", one(most.octet(108) >= 0), 1);
        due("behind it", most.octet(109), NONE);
        most.weeks(3);
        int[] image = Check.image(most);
        Check.tape(most, image);
        due("on", one(most.on()), 1);
        int[] again = Check.image(most);
        Check.due("the same image", java.util.Arrays.equals(image, again), true);
    }

    private static final int QUOTA = 2;
    private static final int PAYS = 3;
    private static final int GUARD = 5;
    private static final int PLACE = 10;
    private static final int IS = 11;
    private static final int LEFT = 12;
    private static final int NAMES = 13;
    private static final int PURSE = 14;
    private static final int LETTER = 16;

    /** Promise 32: of each number the least and the most are taken, the next ones are not. */
    private static void onFromItsBounds() {
        int[][] taken = {{0, 3, 1, 231}, {0, 0, 1, 255}, {0, 1, 1, 0}, {QUOTA, 0}, {QUOTA, 2}, {6, 1}, {6, 0}, {PAYS, 3, 4, 231},
            {PAYS, 0, 4, 0}, {7, 3, 8, 231}, {GUARD, 0}, {GUARD, 9}, {9, 9}, {PLACE, 0}, {PLACE, 1}, {18, 1}, {IS, 0}, {IS, 2},
            {IS, 3}, {IS, 4}, {IS, 1, LEFT, 1}, {IS, 1, LEFT, 99}, {NAMES, 0}, {NAMES, 99}, {PURSE, 39, 15, 15},
            {PURSE, 0, 15, 255}, {PURSE, 38, 15, 255}, {LETTER, 0}, {LETTER, 1}, {LETTER, 255}, {17, 255}};
        for (int[] pairs : taken) {
            NineTimes x = Check.of(WAR);
            int[] image = Check.with(Check.image(x), pairs);
            Check.tape(x, image);
            due("on of " + java.util.Arrays.toString(pairs), one(x.on()), 1);
            due("nothing refused", x.status(5), 0);
            Check.due("as it tells", java.util.Arrays.equals(Check.image(x), image), true);
            tapeWent("on()", x);
        }
        int[][] not = {{0, 3, 1, 232}, {0, 4}, {0, 255}, {QUOTA, 3}, {QUOTA, 255}, {6, 2}, {PAYS, 3, 4, 232}, {PAYS, 4},
            {PAYS, 255}, {7, 3, 8, 232}, {GUARD, 10}, {GUARD, 255}, {9, 10}, {PLACE, 2}, {PLACE, 255}, {18, 2}, {IS, 5}, {IS, 255},
            {19, 5}, {IS, 1, LEFT, 0}, {IS, 1, LEFT, 100}, {IS, 1, LEFT, 255}, {IS, 0, LEFT, 1}, {IS, 2, LEFT, 1},
            {IS, 3, LEFT, 99}, {IS, 4, LEFT, 1}, {NAMES, 100}, {NAMES, 255}, {21, 100}, {PURSE, 39, 15, 16}, {PURSE, 40, 15, 0},
            {PURSE, 255}, {22, 39, 23, 16}};
        for (int[] pairs : not) {
            NineTimes x = lived();
            // of WEEK 0: all the same bytes as above
            Check.tape(x, Check.with(Check.image(Check.of(WAR)), pairs));
            Check.refused("on of " + java.util.Arrays.toString(pairs), x, 5, 0, y -> one(y.on()));
            tapeWent("a refused on()", x);
            due("the ACT can be undone", one(x.undo()), 1);
            due("it paid", x.county(0, 1), 10);
        }
    }

    /** Not AN IMAGE of this WAR: too short, too long, another last byte, none, of another WAR. */
    private static void onRefused() {
        int[] image = Check.image(Check.of(WAR));
        int[] shorter = Check.with(java.util.Arrays.copyOf(image, 26), 0, 0);
        int[] longer = Check.with(java.util.Arrays.copyOf(image, 28), 0, 0);
        int[] other = Check.image(Check.of(Check.county("a", 1, 1, 1)));
        int[] cut = java.util.Arrays.copyOf(image, 26);
        int[][] bad = {{}, {0}, {0, 0}, shorter, longer, cut, other, new int[27], new int[1600]};
        for (int[] bytes : bad) {
            NineTimes x = lived();
            Check.tape(x, bytes);
            Check.refused("on of " + bytes.length + " bytes", x, 5, 0, y -> one(y.on()));
            tapeWent("a refused on()", x);
        }
        for (int last : new int[] {image[26] - 1, image[26] + 1, image[26] ^ 128, 251, 255}) {
            NineTimes x = lived();
            int[] bytes = image.clone();
            bytes[26] = last & 255;
            Check.tape(x, bytes);
            Check.refused("on by the last byte " + last, x, 5, 0, y -> one(y.on()));
        }
        // a last byte of 251 and more is none, even where it is like by mod 251
        NineTimes y = new NineTimes();
        for (int week = 0; week < 256; week++) {
            int[] bytes = Check.with(new int[] {0, 0, 0}, 1, week);
            if (bytes[2] < 5) {
                bytes[2] += 251;
                Check.tape(y, bytes);
                due("a last byte of " + bytes[2], one(y.on()), 0);
            }
        }
        // quotas no more than told, whatever is left now
        NineTimes z = Check.of(WAR);
        z.weeks(9);
        due("none is left", z.has(4), 0);
        Check.tape(z, image);
        due("on", one(z.on()), 1);
        due("all is left", z.has(4), 3);
    }

    /** All is as it tells, nothing is KEPT, no ACT can be undone. */
    private static void onAsItTells() {
        NineTimes x = lived();
        int[] image = Check.image(x);
        x.weeks(20);
        due("some KEPT", one(x.has(9) > 4), 1);
        Check.tape(x, image);
        due("on", one(x.on()), 1);
        int[] due = {2, 1, 2, 3, 1, 0, 0, 2, 30, 0, 1, 0, 99};
        for (int what = 0; what < due.length; what++) {
            due("has(" + what + ") behind on()", x.has(what), due[what]);
        }
        due("nothing KEPT", x.kept(0, 0), NONE);
        due("no undo", one(x.undo()), 0);
        due("SEEN stays", x.who(0), 1);
        Check.due("the same image", java.util.Arrays.equals(Check.image(x), image), true);
        // LETTERS of now are gone where it tells of none
        Check.set(x, LETTER, 0, LETTER + 1, 0);
        due("no LETTER", x.known(0, 0), NONE);
        due("no LETTER", x.known(0, 1), NONE);
        due("the other one's stay", x.known(1, 1), 0);
        x.weeks(1);
        due("KEPT from here on", x.has(9), 1);
        due("an ACT", one(x.undo()), 1);
        due("back to the image", x.has(3), 3);
    }

    /** Promise 33: how many were refused, of each kind. */
    private static void status() {
        NineTimes x = Check.of(WAR);
        x.end(1);
        x.end(-1);
        Check.tape(x, "x");
        x.war();
        x.weeks(0);
        x.chance(0);
        x.weeks(101);
        x.pay(2, 0);
        x.guard(2, 0);
        x.tell(2, 0);
        x.pay(0, 10);
        x.undo();
        x.undo();
        x.seed(-1);
        x.see();
        x.on();
        x.seed(-2);
        x.see();
        int[] due = {2, 1, 3, 4, 2, 5};
        for (int what = 0; what < due.length; what++) {
            due("status(" + what + ")", x.status(what), due[what]);
        }
        due("status(6)", x.status(6), NONE);
        for (int out : OUTSIDE) {
            due("status(" + out + ")", x.status(out), NONE);
        }
        // NONE of what is asked is no refusal, and a new WAR clears no count
        x.has(13);
        x.later(9, 9, 9);
        x.best(9, 9, 9);
        x.staffed(-1);
        x.octet(99);
        Check.tape(x, WAR);
        x.war();
        for (int what = 0; what < due.length; what++) {
            due("status(" + what + ") as it was", x.status(what), due[what]);
        }
    }

    /** No call throws or fails to end, for any arguments in any state. */
    private static void nothingThrows() throws Exception {
        int[] odd = {0, 1, -1, 2, 6, 7, 80, 100, 1000, Integer.MAX_VALUE, Integer.MIN_VALUE};
        NineTimes[] states = new NineTimes[4];
        for (Method m : NineTimes.class.getDeclaredMethods()) {
            if (!Modifier.isPublic(m.getModifiers()) || m.getParameterCount() > 3) {
                continue;
            }
            states[0] = new NineTimes();
            states[1] = lived();
            states[2] = inWeek(998);
            states[3] = Check.of("jumps all;likes 5;post 0;");
            int tries = (int) Math.pow(odd.length, m.getParameterCount());
            for (int t = 0; t < Math.min(tries, 400); t++) {
                Object[] args = new Object[m.getParameterCount()];
                int rest = tries > 400 ? t * 3 + 1 : t;
                for (int k = 0; k < args.length; k++) {
                    args[k] = odd[rest % odd.length];
                    rest /= odd.length;
                }
                for (NineTimes x : states) {
                    Object answer = m.invoke(x, args);
                    Check.due("an answer of " + m.getName(), answer != null, true);
                }
            }
        }
    }
}
