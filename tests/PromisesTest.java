import java.lang.reflect.Method;
import java.lang.reflect.Modifier;

/** Each promise of the document by answers worked out by hand, edges and wrong inputs among them. */
public final class PromisesTest {
    private static final int NONE = -1;

    /*
     * WEEK 0: joe enlists in ash, sam in bay. 1: both jump, joe to bay, sam to ash, 2 WEEKS each. 3: both FREE there.
     * 4: bay is full, joe goes to ash; sam enlists in ash. 5: sam jumps, to bay. 6: joe FREE in ash. 7: joe CAUGHT;
     * sam FREE in bay. 8: sam CAUGHT.
     */
    private static final String THREE =
        "county ash quota 2 pays 300 guard 3;county bay quota 1 pays 500 guard 1;county cod quota 1 pays 200 guard 9;"
        + "rail ash to bay weeks 2;rail bay to cod weeks 3;man joe at ash signs 5;man sam at bay signs 6;post 3;";
    /** One man who can't go anywhere. */
    private static final String ALONE = "county a quota 2 pays 10 guard 2;man m at a signs 1;";
    /** Six men along seven counties: 66 things happen up to WEEK 15. */
    private static final String LINE = line();

    private PromisesTest() {
    }

    private static String line() {
        StringBuilder text = new StringBuilder();
        for (int k = 0; k < 7; k++) {
            text.append("county ").append((char) ('a' + k)).append(" quota 20 pays ").append(k).append(" guard 0;");
            if (k > 0) {
                text.append("rail ").append((char) ('a' + k - 1)).append(" to ").append((char) ('a' + k));
                text.append(" weeks 1;");
            }
        }
        for (int k = 0; k < 6; k++) {
            text.append("man ").append((char) ('t' + k)).append(" at a signs ").append(k).append(';');
        }
        return text.append("likes if(far<2,pays,0);post 9;").toString();
    }

    public static void main(String[] args) {
        face();
        newObject();
        feed();
        end();
        war();
        warResets();
        has();
        letter();
        county();
        way();
        man();
        known();
        later();
        caughtAndFilled();
        round();
        roundOfLikeOnes();
        lured();
        best();
        marks();
        staffed();
        seeAndWho();
        weeks();
        chance();
        payAndGuard();
        tell();
        undo();
        seed();
        kept();
        image();
        on();
        onRefused();
        lastWeek();
        Check.finish();
    }

    private static void face() {
        int methods = 0;
        for (Method m : NineTimes.class.getDeclaredMethods()) {
            methods += Modifier.isPublic(m.getModifiers()) ? 1 : 0;
        }
        Check.due("public methods", methods, 33 - 1);
        Check.due("NONE", NineTimes.NONE, -1);
    }

    /** Promise 1, and what each call answers without a WAR. */
    private static void newObject() {
        NineTimes x = new NineTimes();
        for (int what = 0; what < 12; what++) {
            Check.due("has of a new one " + what, x.has(what), 0);
        }
        Check.due("the seed of a new one", x.has(12), 1);
        Check.due("county of a new one", x.county(0, 0), NONE);
        Check.due("man of a new one", x.man(0, 0), NONE);
        Check.due("fault of a new one", x.fault(0), 0);
        Check.due("place of a new one", x.fault(1), NONE);
        Check.due("octet of a new one", x.octet(0), NONE);
        Check.due("filled of a new one", x.filled(), 0);
        Check.due("marks of a new one", x.marks(), 0);
        Check.due("staffed of a new one", x.staffed(0), 0);
        Check.due("who of a new one", x.who(0), 0);
        Check.due("telling of a new one", x.who(1), NONE);
        Check.due("left of a new one", x.who(2), NONE);
        Check.due("image of a new one", x.image(), 3);
        // 181 -> (905 + 0) % 251 = 152 -> 760 % 251 = 7
        Check.due("the last byte of its image", x.octet(2), 7);
        Check.tape(x, 0, 7, Check.with(new int[] {0, 7, 0}, 0, 0)[2]);
        Check.due("on without a WAR", x.on(), true);
        Check.due("its WEEK", x.has(3), 7);
        Check.due("weeks of a new one", x.weeks(3), 0);
        Check.due("chance of a new one", x.chance(3), 0);
        Check.due("no draw without men", x.has(12), 1);
    }

    /** Promise 2. */
    private static void feed() {
        NineTimes x = new NineTimes();
        for (int k = 1; k <= 80; k++) {
            Check.due("feed " + k, x.feed(k, -1, 0, Integer.MIN_VALUE, Integer.MAX_VALUE), 20 * k);
        }
        Check.due("feed beyond 1600", x.feed(0, 0, 0, 0, 0), NONE);
        Check.due("refused", x.status(0), 1);
        Check.due("still 1600", x.end(1600), true);
        Check.due("cut", x.end(1581), true);
        Check.due("feed to 1601", x.feed(0, 0, 0, 0, 0), NONE);
        Check.due("cut", x.end(1580), true);
        Check.due("feed to 1600", x.feed(0, 0, 0, 0, 0), 1600);
        Check.due("refused", x.status(0), 2);
        // the highest byte first: "post", " 7; "
        NineTimes y = new NineTimes();
        Check.due("feed", y.feed(0x706f7374, 0x20373b20, 0x20202020, 0x0a0a0a0a, 0x20202020), 20);
        Check.due("war", y.war(), 1);
        Check.due("feed", y.feed(0x706f7374, 0x20378000, 0, 0, 0), 20);
        Check.due("war of a byte above 127", y.war(), NONE);
        Check.due("its place", y.fault(1), 6);
    }

    /** Promise 3. */
    private static void end() {
        NineTimes x = new NineTimes();
        Check.due("end(0) of none", x.end(0), true);
        Check.due("end(1) of none", x.end(1), false);
        Check.tape(x, "post 1;post 2;post 3");
        Check.due("end(-1)", x.end(-1), false);
        Check.due("end(21)", x.end(21), false);
        Check.due("end(MAX)", x.end(Integer.MAX_VALUE), false);
        Check.due("end(MIN)", x.end(Integer.MIN_VALUE), false);
        Check.due("refused", x.status(0), 5);
        Check.due("end(20)", x.end(20), true);
        Check.due("end(14)", x.end(14), true);
        Check.due("end(15)", x.end(15), false);
        Check.due("war", x.war(), 2);
        Check.due("end(1) behind war", x.end(1), false);
    }

    /** Promise 4. */
    private static void war() {
        NineTimes x = new NineTimes();
        Check.due("the empty war", x.war(), 0);
        Check.due("blanks alone", Check.war(x, " \n "), 0);
        Check.due("three", Check.war(x, THREE), 8);
        Check.due("the tape went", x.end(1), false);
        Check.due("a fault", Check.war(x, "county x"), NONE);
        Check.due("the tape went", x.end(1), false);
        Check.due("refused", x.status(1), 1);
        Check.due("the old war stays", x.has(0), 3);
        Check.due("its name stays", x.letter(0, 0, 0), 1);
        Check.due("a fault behind another county", Check.war(x, "county q quota 9 pays 9 guard 9;x"), NONE);
        Check.due("the quota stays", x.county(0, 0), 2);
        Check.due("the name stays", x.letter(0, 0, 0), 1);
        Check.due("the way stays", x.way(0, 2), 5);
        Check.due("all caught as before", x.caught(1), 9);
        Check.due("the empty war", Check.war(x, ""), 0);
        Check.due("no counties", x.has(0), 0);
        Check.due("no men", x.has(2), 0);
        StringBuilder posts = new StringBuilder();
        for (int k = 0; k < 80; k++) {
            posts.append("post ").append(k % 10).append(';');
        }
        Check.due("80 statements", Check.war(x, posts.toString()), 80);
        Check.due("81 statements", Check.war(x, posts + "post 1;"), NONE);
        Check.due("81 statements", x.fault(0), 6);
        Check.due("place of the 81st", x.fault(1), 560);
        // without post 2 WEEKS; else the last one counts
        Check.due("post untold", letterBehindOneJump(""), 2 - 1);
        Check.due("post 0", letterBehindOneJump("post 0;"), 0);
        Check.due("post 9", letterBehindOneJump("post 9;"), 9 - 1);
        Check.due("the last post", letterBehindOneJump("post 9;post 4;"), 4 - 1);
    }

    private static int letterBehindOneJump(String more) {
        NineTimes x = Check.of(ALONE + more);
        x.weeks(2);
        return x.known(0, 0);
    }

    private static void warResets() {
        NineTimes x = Check.of(THREE);
        x.seed(77);
        x.weeks(5);
        x.pay(0, 1);
        x.guard(0, 9);
        x.tell(0, 2);
        Check.tape(x, 0, 1);
        Check.due("see", x.see(), 1);
        Check.due("a faulty war", Check.war(x, "x"), NONE);
        Check.due("WEEK stays", x.has(3), 5);
        Check.due("KEPT stays", x.has(9), 5);
        Check.due("SEEN stays", x.has(10), 1);
        Check.due("ACTS stay", x.has(11), 4);
        Check.due("three again", Check.war(x, THREE), 8);
        Check.due("WEEK", x.has(3), 0);
        Check.due("quotas", x.has(4), 4);
        Check.due("names", x.has(7), 0);
        Check.due("purses", x.has(8), 0);
        Check.due("KEPT", x.has(9), 0);
        Check.due("SEEN", x.has(10), 0);
        Check.due("ACTS", x.has(11), 0);
        Check.due("the seed stays", x.has(12), 77);
        Check.due("pay", x.county(0, 1), 300);
        Check.due("guard", x.county(0, 2), 3);
        Check.due("letter", x.known(0, 2), NONE);
        Check.due("undo", x.undo(), false);
    }

    /** Promise 6. */
    private static void has() {
        NineTimes x = Check.of(THREE);
        x.weeks(5);
        int[] due = {3, 2, 2, 5, 1, 0, 0, 3, 1100, 5, 0, 1, 1};
        for (int what = 0; what < due.length; what++) {
            Check.due("has(" + what + ") in WEEK 5", x.has(what), due[what]);
        }
        x.weeks(4);
        Check.due("caught", x.has(5), 2);
        Check.due("at the front", x.has(6), 0);
        Check.due("has(-1)", x.has(-1), NONE);
        Check.due("has(13)", x.has(13), NONE);
        NineTimes y = Check.of(THREE + "jumps week<0;");
        y.weeks(2);
        Check.due("at the front", y.has(6), 2);
        Check.due("caught", y.has(5), 0);
    }

    /** Promise 7. */
    private static void letter() {
        NineTimes x = Check.of("county azbycx quota 0 pays 0 guard 0;man b at azbycx signs 0;");
        int[] county = {1, 26, 2, 25, 3, 24};
        for (int k = 0; k < 6; k++) {
            Check.due("letter " + k, x.letter(0, 0, k), county[k]);
            Check.due("letter of b " + k, x.letter(1, 0, k), k == 0 ? 2 : 0);
        }
        Check.due("letter 6", x.letter(0, 0, 6), NONE);
        Check.due("letter -1", x.letter(0, 0, -1), NONE);
        Check.due("county 1", x.letter(0, 1, 0), NONE);
        Check.due("county -1", x.letter(0, -1, 0), NONE);
        Check.due("man 1", x.letter(1, 1, 0), NONE);
        Check.due("kind 2", x.letter(2, 0, 0), NONE);
        Check.due("kind -1", x.letter(-1, 0, 0), NONE);
    }

    /** Promise 8. */
    private static void county() {
        NineTimes x = Check.of("county a quota 5 pays 12 guard 7;county b quota 0 pays 0 guard 0;"
            + "man k at a signs 3;man l at a signs 4;man m at a signs 3;");
        int[] due = {5, 12, 7, 0};
        for (int what = 0; what < 4; what++) {
            Check.due("county(0, " + what + ")", x.county(0, what), due[what]);
        }
        x.tell(2, 0);
        Check.due("those of like signs are known", x.county(0, 3), 5);
        Check.due("not elsewhere", x.county(1, 3), 0);
        x.tell(1, 0);
        Check.due("all are known", x.county(0, 3), 7);
        Check.due("county(0, 4)", x.county(0, 4), NONE);
        Check.due("county(0, -1)", x.county(0, -1), NONE);
        Check.due("county(2, 0)", x.county(2, 0), NONE);
        Check.due("county(-1, 0)", x.county(-1, 0), NONE);
        // a letter on its way makes nobody known
        NineTimes y = Check.of(THREE);
        y.weeks(4);
        Check.due("known in WEEK 4", y.county(0, 3), 1);
        Check.due("bay in WEEK 4", y.county(1, 3), 2);
        Check.due("cod in WEEK 4", y.county(2, 3), 0);
    }

    /** Promise 9. */
    private static void way() {
        NineTimes x = Check.of("county a quota 0 pays 0 guard 0;county b quota 0 pays 0 guard 0;"
            + "county c quota 0 pays 0 guard 0;county d quota 0 pays 0 guard 0;"
            + "rail a to b weeks 9;rail b to c weeks 2;rail c to a weeks 3;");
        Check.due("the shorter way round", x.way(0, 1), 5);
        Check.due("back", x.way(1, 0), 5);
        Check.due("a rail", x.way(0, 2), 3);
        Check.due("to itself", x.way(3, 3), 0);
        Check.due("no way", x.way(0, 3), NONE);
        Check.due("no way back", x.way(3, 0), NONE);
        Check.due("none such", x.way(4, 4), NONE);
        Check.due("none such", x.way(-1, 0), NONE);
        Check.due("none such", x.way(0, -1), NONE);
        Check.due("none such", x.way(0, 4), NONE);
        Check.due("rails", x.has(1), 3);
    }

    private static void isMan(NineTimes x, int man, int... due) {
        for (int what = 0; what < due.length; what++) {
            Check.due("WEEK " + x.has(3) + " man(" + man + ", " + what + ")", x.man(man, what), due[what]);
        }
    }

    /** Promise 10, and the WEEKS. */
    private static void man() {
        NineTimes x = Check.of(THREE);
        int[][] joe = {{0, 0, 0, 0, 0, 5}, {0, 2, 0, 1, 300, 5}, {1, 1, 2, 1, 300, 5}, {1, 1, 1, 1, 300, 5},
            {1, 0, 0, 1, 300, 5}, {0, 1, 2, 1, 300, 5}, {0, 1, 1, 1, 300, 5}, {0, 0, 0, 1, 300, 5},
            {0, 3, 0, 1, 300, 5}, {0, 3, 0, 1, 300, 5}};
        int[][] sam = {{1, 0, 0, 0, 0, 6}, {1, 2, 0, 1, 500, 6}, {0, 1, 2, 1, 500, 6}, {0, 1, 1, 1, 500, 6},
            {0, 0, 0, 1, 500, 6}, {0, 2, 0, 2, 800, 6}, {1, 1, 2, 2, 800, 6}, {1, 1, 1, 2, 800, 6},
            {1, 0, 0, 2, 800, 6}, {1, 3, 0, 2, 800, 6}};
        for (int week = 0; week < joe.length; week++) {
            isMan(x, 0, joe[week]);
            isMan(x, 1, sam[week]);
            x.weeks(1);
        }
        Check.due("man(0, 6)", x.man(0, 6), NONE);
        Check.due("man(0, -1)", x.man(0, -1), NONE);
        Check.due("man(2, 0)", x.man(2, 0), NONE);
        Check.due("man(-1, 0)", x.man(-1, 0), NONE);
        // the second one finds what the first one left; by post 0 a LETTER is there at once
        NineTimes y = Check.of("county a quota 1 pays 7 guard 0;county b quota 1 pays 0 guard 0;rail a to b weeks 1;"
            + "man k at a signs 1;man l at a signs 1;post 0;");
        y.weeks(1);
        isMan(y, 0, 0, 2, 0, 1, 7);
        isMan(y, 1, 1, 1, 1, 0, 0);
        y.weeks(1);
        isMan(y, 0, 1, 1, 1, 1, 7);
        isMan(y, 1, 1, 0, 0, 0, 0);
        y.weeks(1);
        // k jumped in WEEK 1: the LETTER is in b in WEEK 2, ahead of l
        isMan(y, 1, 1, 3, 0, 0, 0);
        NineTimes z = Check.of(ALONE);
        z.weeks(2);
        isMan(z, 0, 0, 0, 0, 1, 10, 1);
        goesOnByLikes();
    }

    private static void goesOnByLikes() {
        String three = "county a quota 0 pays 0 guard 9;county b quota 2 pays 3 guard 1;county c quota 7 pays 3 guard 2;"
            + "county d quota 9 pays 999 guard 0;rail a to b weeks 2;rail a to c weeks 4;man m at a signs 0;";
        String[] likes = {"", "likes 5;", "likes quota;", "likes 0-quota;", "likes far;", "likes guard;", "likes pays*2;",
            "likes names+purse+week;", "likes if(far>3 and week=0,1,0);", "likes min(far,3)+max(guard,2)*0;"};
        int[] due = {1, 1, 2, 1, 2, 2, 1, 1, 2, 2};
        for (int k = 0; k < likes.length; k++) {
            NineTimes x = Check.of(three + likes[k]);
            x.weeks(1);
            Check.due("he goes by " + likes[k], x.man(0, 0), due[k]);
            Check.due("his way by " + likes[k], x.man(0, 2), due[k] == 1 ? 2 : 4);
        }
    }

    /** Promise 11. */
    private static void known() {
        NineTimes x = Check.of(THREE);
        Check.due("none sent", x.known(0, 0), NONE);
        x.weeks(2);
        int[] joe = {2, 4, 7};
        int[] sam = {4, 2, 5};
        for (int c = 0; c < 3; c++) {
            Check.due("joe in " + c, x.known(0, c), joe[c]);
            Check.due("sam in " + c, x.known(1, c), sam[c]);
        }
        x.weeks(4);
        Check.due("joe in cod", x.known(0, 2), 3);
        Check.due("there", x.known(0, 0), 0);
        // sam's second letters come later than the first ones
        Check.due("sam in ash", x.known(1, 0), 0);
        Check.due("sam in cod", x.known(1, 2), 1);
        Check.due("none such", x.known(2, 0), NONE);
        Check.due("none such", x.known(-1, 0), NONE);
        Check.due("none such", x.known(0, 3), NONE);
        Check.due("none such", x.known(0, -1), NONE);
        // a LETTER of another man of like signs is none of himself
        NineTimes y = Check.of("county a quota 9 pays 1 guard 0;man k at a signs 1;man l at a signs 1;");
        y.tell(0, 0);
        Check.due("himself", y.known(0, 0), 0);
        Check.due("not himself", y.known(1, 0), NONE);
        // no LETTER goes where there is no way
        NineTimes z = Check.of("county a quota 9 pays 1 guard 0;county b quota 9 pays 1 guard 0;man k at a signs 1;");
        z.weeks(2);
        Check.due("no way", z.known(0, 1), NONE);
        Check.due("there", z.known(0, 0), 1);
    }

    /** Promise 12. */
    private static void later() {
        NineTimes x = Check.of(THREE);
        x.weeks(1);
        NineTimes y = Check.of(THREE);
        y.weeks(1);
        int[] what = {1, 0, 3, 4};
        for (int n = 0; n <= 12; n++) {
            for (int man = 0; man < 2; man++) {
                for (int k = 0; k < 4; k++) {
                    Check.due("later(" + man + ", " + n + ", " + k + ")", x.later(man, n, k), y.man(man, what[k]));
                }
            }
            y.weeks(1);
        }
        Check.due("the WEEK stays", x.has(3), 1);
        Check.due("nothing more is KEPT", x.has(9), 2);
        Check.due("no ACT", x.has(11), 1);
        Check.due("80", x.later(0, 80, 0), 3);
        Check.due("81", x.later(0, 81, 0), NONE);
        Check.due("-1", x.later(0, -1, 0), NONE);
        Check.due("none such", x.later(2, 0, 0), NONE);
        Check.due("none such", x.later(-1, 0, 0), NONE);
        Check.due("what 4", x.later(0, 0, 4), NONE);
        Check.due("what -1", x.later(0, 0, -1), NONE);
        // without DRAWS: a guard of 9 takes nobody, and the seed stays
        NineTimes z = Check.of("county a quota 2 pays 10 guard 9;man m at a signs 1;");
        Check.due("jumps ahead", z.later(0, 2, 0), 0);
        Check.due("the seed", z.has(12), 1);
    }

    /** Promises 13 and 14. */
    private static void caughtAndFilled() {
        NineTimes x = Check.of(THREE);
        x.weeks(3);
        Check.due("joe", x.caught(0), 5);
        Check.due("sam", x.caught(1), 6);
        x.weeks(5);
        Check.due("joe is", x.caught(0), 0);
        Check.due("sam", x.caught(1), 1);
        Check.due("none such", x.caught(2), NONE);
        Check.due("none such", x.caught(-1), NONE);
        Check.due("the quota of cod stays", x.filled(), NONE);
        NineTimes y = Check.of(THREE + "jumps 1>2;");
        Check.due("to the front", y.caught(0), NONE);
        NineTimes z = Check.of(ALONE);
        // he enlists in WEEK 0 and 2; known from WEEK 3 on, he is caught in WEEK 4
        Check.due("filled", z.filled(), 3);
        Check.due("caught", z.caught(0), 5);
        z.weeks(3);
        Check.due("filled now", z.filled(), 0);
        Check.due("behind 80 WEEKS at most", caughtBehind(79), 80);
        Check.due("not behind 81", caughtBehind(80), NONE);
        Check.due("filled behind 80 WEEKS at most", filledBehind(79), 80);
        Check.due("not filled behind 81", filledBehind(80), NONE);
    }

    /** A man on the ROAD for so many WEEKS, who enlists then. */
    private static int filledBehind(int weeks) {
        NineTimes x = Check.of("county a quota 1 pays 0 guard 0;man m at a signs 0;");
        Check.tape(x, Check.with(Check.with(Check.image(x), 7, 1), 8, weeks));
        Check.due("on", x.on(), true);
        return x.filled();
    }

    /** A man who is FREE, and known from so many WEEKS from now on. */
    private static int caughtBehind(int week) {
        NineTimes x = Check.of("county a quota 0 pays 0 guard 0;man m at a signs 0;");
        int[] image = Check.image(x);
        // the LETTER is there in so many WEEKS
        Check.tape(x, Check.with(image, 12, week + 1));
        Check.due("on", x.on(), true);
        return x.caught(0);
    }

    private static void isRound(NineTimes x, int man, int gain, int comes, int... row) {
        for (int k = 0; k < 4; k++) {
            Check.due("round(" + man + ", " + k + ")", x.round(man, k), k < row.length ? row[k] : NONE);
        }
        Check.due("round(" + man + ", 4)", x.round(man, 4), gain);
        Check.due("round(" + man + ", 5)", x.round(man, 5), comes);
    }

    /** Promise 15. */
    private static void round() {
        NineTimes x = Check.of(THREE);
        isRound(x, 0, 1000, 7, 0, 1, 2);
        isRound(x, 1, 1000, 9, 0, 1, 2);
        Check.due("k 6", x.round(0, 6), NONE);
        Check.due("k -1", x.round(0, -1), NONE);
        Check.due("none such", x.round(2, 4), NONE);
        Check.due("none such", x.round(-1, 4), NONE);
        x.pay(2, 999);
        isRound(x, 0, 1799, 7, 0, 1, 2);
        // what is known of others counts by when he comes
        x.tell(0, 1);
        isRound(x, 0, 1299, 6, 0, 2);
        x.weeks(1);
        Check.due("not FREE", x.round(0, 0), NONE);
        Check.due("not FREE", x.round(0, 4), NONE);
        NineTimes y = Check.of("county a quota 0 pays 5 guard 0;man m at a signs 0;");
        Check.due("no quota", y.round(0, 0), NONE);
        Check.due("no quota", y.round(0, 4), NONE);
        // by post 0 his own LETTER is where he comes when he comes
        NineTimes z = Check.of(THREE + "post 0;");
        isRound(z, 0, 500, 2, 1);
        isRound(z, 1, 500, 0, 1);
        // by post 1 it comes later to the next one, but ahead of him to the third one by a way round
        NineTimes s = Check.of("county a quota 1 pays 100 guard 0;county b quota 1 pays 100 guard 0;"
            + "county c quota 1 pays 100 guard 0;rail a to b weeks 1;rail b to c weeks 1;rail a to c weeks 1;"
            + "man m at a signs 0;post 1;");
        isRound(s, 0, 200, 2, 0, 1);
        // four at most
        NineTimes t = Check.of(LINE);
        isRound(t, 0, 3 + 4 + 5 + 6, 9, 3, 4, 5, 6);
        // a LETTER under way is there when he comes
        NineTimes u = Check.of(THREE);
        u.weeks(4);
        isRound(u, 0, 200, 3, 2);
        isRound(u, 1, 300, 0, 0);
    }

    private static void roundOfLikeOnes() {
        String four = "county a quota 1 pays 5 guard 0;county b quota 1 pays 10 guard 0;county c quota 1 pays 5 guard 0;"
            + "man m at a signs 0;post 0;rail a to b weeks 3;rail a to c weeks ";
        NineTimes x = Check.of(four + "2;");
        isRound(x, 0, 10, 3, 1);
        // of like ones the soonest
        NineTimes y = Check.of("county a quota 0 pays 5 guard 0;county b quota 1 pays 9 guard 0;"
            + "county c quota 1 pays 9 guard 0;man m at a signs 0;post 0;rail a to b weeks 3;rail a to c weeks 2;");
        isRound(y, 0, 9, 2, 2);
        // then the first one
        NineTimes z = Check.of("county a quota 0 pays 5 guard 0;county b quota 1 pays 9 guard 0;"
            + "county c quota 1 pays 9 guard 0;man m at a signs 0;post 0;rail a to b weeks 2;rail a to c weeks 2;");
        isRound(z, 0, 9, 2, 1);
        // the shortest row ahead of the first one: 10 by WEEK 3 in d alone, or in a and c (d knows him in WEEK 4)
        NineTimes s = Check.of("county a quota 1 pays 5 guard 0;county b quota 0 pays 0 guard 0;"
            + "county c quota 1 pays 5 guard 0;county d quota 1 pays 10 guard 0;man m at a signs 0;post 1;"
            + "rail a to c weeks 2;rail a to d weeks 3;");
        isRound(s, 0, 15, 4, 0, 3);
        // he is known in a from the third WEEK on, in c from the fourth one on
        int[] image = Check.with(Check.with(Check.image(s), 24, 4), 26, 5);
        Check.tape(s, Check.with(image, 27, 5));
        Check.due("on", s.on(), true);
        isRound(s, 0, 10, 3, 3);
        Check.tape(s, Check.with(image, 27, 4));
        Check.due("on", s.on(), true);
        isRound(s, 0, 10, 3, 0, 2);
        NineTimes t = Check.of("county a quota 1 pays 0 guard 0;man m at a signs 0;");
        isRound(t, 0, 0, 0, 0);
    }

    /** Promise 16. */
    private static void lured() {
        NineTimes x = Check.of(THREE);
        Check.due("ahead of a like one", x.lured(0, 1), 200);
        Check.due("behind one", x.lured(0, 2), 501);
        Check.due("where he is", x.lured(0, 0), NONE);
        Check.due("none such", x.lured(2, 0), NONE);
        Check.due("none such", x.lured(-1, 0), NONE);
        Check.due("none such", x.lured(0, 3), NONE);
        Check.due("none such", x.lured(0, -1), NONE);
        x.pay(1, 999);
        Check.due("by nothing", x.lured(0, 2), NONE);
        x.pay(1, 998);
        Check.due("by the most", x.lured(0, 2), 999);
        Check.due("it stays", x.county(2, 1), 200);
        x.weeks(1);
        Check.due("not FREE", x.lured(0, 1), NONE);
        NineTimes y = Check.of("county a quota 0 pays 0 guard 0;county b quota 0 pays 0 guard 0;man m at a signs 0;");
        Check.due("no way", y.lured(0, 1), NONE);
        NineTimes z = Check.of("county a quota 0 pays 0 guard 0;county b quota 3 pays 0 guard 0;"
            + "county c quota 2 pays 9 guard 0;rail a to b weeks 1;rail b to c weeks 1;man m at a signs 0;"
            + "likes quota*10-far;");
        Check.due("the liked one by 0", z.lured(0, 1), 0);
        Check.due("the other one by nothing", z.lured(0, 2), NONE);
        NineTimes s = Check.of("county a quota 0 pays 0 guard 0;county b quota 3 pays 7 guard 0;rail a to b weeks 1;"
            + "man m at a signs 0;likes 0-1000*1000-pays;");
        Check.due("the only one by 0", s.lured(0, 1), 0);
        // not in the order of pay: only 40 .. 49 will do
        NineTimes t = Check.of("county a quota 0 pays 0 guard 0;county b quota 3 pays 4 guard 0;"
            + "county c quota 3 pays 7 guard 0;rail a to b weeks 1;rail b to c weeks 1;"
            + "man m at a signs 0;likes if(pays/10=4,2,1);");
        Check.due("in a step", t.lured(0, 2), 40);
        Check.due("the first one", t.lured(0, 1), 0);
    }

    /** Promise 17. */
    private static void best() {
        NineTimes x = Check.of(THREE);
        Check.due("pay", x.best(2, 12, 0), 333);
        Check.due("left", x.best(2, 12, 1), 0);
        Check.due("pay", x.best(0, 1, 0), 0);
        Check.due("left", x.best(0, 1, 1), 1);
        Check.due("40", x.best(0, 40, 1), 0);
        Check.due("n 0", x.best(0, 0, 0), NONE);
        Check.due("n 41", x.best(0, 41, 0), NONE);
        Check.due("what 2", x.best(0, 1, 2), NONE);
        Check.due("what -1", x.best(0, 1, -1), NONE);
        Check.due("none such", x.best(3, 1, 0), NONE);
        Check.due("none such", x.best(-1, 1, 0), NONE);
        Check.due("the pay stays", x.county(2, 1), 200);
        Check.due("the WEEK stays", x.has(3), 0);
        Check.due("no ACT", x.has(11), 0);
        // a quota not all of which goes: most of it by the least that lures, 999 among the steps
        NineTimes y = Check.of("county a quota 0 pays 0 guard 0;county b quota 9 pays 998 guard 0;"
            + "county c quota 9 pays 0 guard 0;rail a to b weeks 1;rail a to c weeks 1;man m at a signs 0;");
        Check.due("pay", y.best(2, 3, 0), 999);
        Check.due("left", y.best(2, 3, 1), 8);
        Check.due("pay too early", y.best(2, 2, 0), 0);
        Check.due("left", y.best(2, 2, 1), 9);
    }

    /** Promise 18. */
    private static void marks() {
        String county = "county a quota 0 pays 0 guard 0;";
        Check.due("none", Check.of(county).marks(), 0);
        Check.due("like ones", Check.of(county + "man m at a signs 9;man n at a signs 9;").marks(), 0);
        Check.due("the least bit", Check.of(county + "man m at a signs 0;man n at a signs 6;").marks(), 2);
        Check.due("two", Check.of(county + "man m at a signs 0;man n at a signs 5;man o at a signs 1;").marks(), 5);
        Check.due("one that parts all", Check.of(county + "man m at a signs 35;man n at a signs 3;").marks(), 32);
        Check.due("fewest ahead of least",
            Check.of(county + "man k at a signs 1;man l at a signs 2;man m at a signs 4;man n at a signs 8;").marks(), 7);
        Check.due("fewest ahead of least bits", Check.of(county + "man k at a signs 48;man l at a signs 17;"
            + "man m at a signs 34;man n at a signs 4;").marks(), 48);
    }

    /** Promise 19. */
    private static void staffed() {
        NineTimes x = Check.of(THREE);
        int[] due = {7, 7, 5, 2, 2, 1, 1};
        for (int n = 0; n < due.length; n++) {
            Check.due("staffed(" + n + ")", x.staffed(n), due[n]);
        }
        Check.due("staffed(99)", x.staffed(99), 1);
        Check.due("staffed(100)", x.staffed(100), NONE);
        Check.due("staffed(-1)", x.staffed(-1), NONE);
        NineTimes y = Check.of("county a quota 0 pays 0 guard 0;county b quota 0 pays 0 guard 0;");
        Check.due("no way", y.staffed(99), 3);
        NineTimes z = Check.of(LINE);
        Check.due("of a line", z.staffed(1), 1 | 4 | 32);
        Check.due("of a line", z.staffed(3), 8);
    }

    /** Promises 20 and 21. */
    private static void seeAndWho() {
        NineTimes x = Check.of("county a quota 0 pays 0 guard 0;man k at a signs 1;man l at a signs 3;"
            + "man m at a signs 33;man n at a signs 16;");
        Check.due("all", x.who(0), 15);
        // sign 0: three have it; 1, 4, 5: one has it
        Check.due("telling", x.who(1), 0);
        Check.due("left", x.who(2), 3);
        Check.due("none", x.who(3), NONE);
        Check.due("none", x.who(-1), NONE);
        Check.tape(x, 0, 1);
        Check.due("see", x.see(), 1);
        Check.due("the tape went", x.end(1), false);
        Check.due("those with it", x.who(0), 7);
        Check.due("telling", x.who(1), 1);
        Check.due("left", x.who(2), 2);
        Check.tape(x, 0, 1, 5, 0, 1, 0);
        Check.due("see", x.see(), 3);
        Check.due("rows", x.has(10), 3);
        Check.due("one", x.who(0), 1);
        Check.due("telling", x.who(1), 0);
        Check.due("left", x.who(2), 1);
        Check.tape(x, 0, 1, 0, 0);
        Check.due("see", x.see(), 2);
        Check.due("nobody", x.who(0), 0);
        Check.due("telling", x.who(1), NONE);
        Check.due("left", x.who(2), NONE);
        int[][] bad = {{}, {0}, {0, 1, 0}, {6, 0}, {255, 0}, {0, 2}, {0, 255}, {0, 0, 1, 1, 0, 9}, new int[34]};
        for (int k = 0; k < bad.length; k++) {
            Check.tape(x, bad[k]);
            Check.due("see of bad rows " + k, x.see(), NONE);
            Check.due("refused", x.status(5), k + 1);
            Check.due("the tape went", x.end(1), false);
            Check.due("SEEN stays", x.has(10), 2);
            Check.due("SEEN stays", x.who(0), 0);
        }
        Check.tape(x, new int[32]);
        Check.due("16 rows", x.see(), 16);
        Check.due("those without it", x.who(0), 8);
        x.weeks(1);
        x.undo();
        Check.due("undo leaves SEEN", x.has(10), 16);
        Check.due("a new war", Check.war(x, THREE), 8);
        Check.due("all again", x.who(0), 3);
    }

    /** Promise 22. */
    private static void weeks() {
        NineTimes x = Check.of(THREE);
        Check.due("9 weeks", x.weeks(9), 3);
        Check.due("WEEK", x.has(3), 9);
        Check.due("no DRAWS", x.has(12), 1);
        Check.due("one ACT", x.has(11), 1);
        Check.due("0", x.weeks(0), NONE);
        Check.due("-1", x.weeks(-1), NONE);
        Check.due("101", x.weeks(101), NONE);
        Check.due("MAX", x.weeks(Integer.MAX_VALUE), NONE);
        Check.due("refused", x.status(2), 4);
        Check.due("WEEK", x.has(3), 9);
        Check.due("no ACT more", x.has(11), 1);
        Check.due("100", x.weeks(100), 0);
        Check.due("WEEK", x.has(3), 109);
        // names 99, purse 9999 at most
        NineTimes y = Check.of("county a quota 1 pays 2 guard 0;man m at a signs 0;");
        Check.tape(y, Check.with(Check.with(Check.with(Check.image(y), 9, 99), 10, 39), 11, 14));
        Check.due("on", y.on(), true);
        Check.due("his purse", y.man(0, 4), 9998);
        y.weeks(1);
        Check.due("names", y.man(0, 3), 99);
        Check.due("purse", y.man(0, 4), 9999);
    }

    /** Promise 23: by the seed 1 the first DRAW is 1103527590 / 64 mod 100 = 18. */
    private static void chance() {
        NineTimes x = Check.of(ALONE);
        x.weeks(1);
        Check.due("below 20: taken", x.chance(1), 1);
        isMan(x, 0, 0, 4, 0, 1, 10);
        Check.due("the seed", x.has(12), 1103527590);
        Check.due("KEPT", x.kept(1, 0) * 1000 + x.kept(1, 1) * 100 + x.kept(1, 2) * 10 + x.kept(1, 3), 1004);
        Check.due("ACTS", x.has(11), 2);
        Check.due("nobody is in a train", x.chance(5), 0);
        Check.due("no DRAW", x.has(12), 1103527590);
        x.undo();
        x.undo();
        x.guard(0, 1);
        x.seed(1);
        Check.due("not below 10", x.chance(1), 0);
        isMan(x, 0, 0, 0, 0, 1, 10);
        Check.due("the seed", x.has(12), 1103527590);
        Check.due("0", x.chance(0), NONE);
        Check.due("101", x.chance(101), NONE);
        Check.due("refused", x.status(2), 2);
        // a DRAW each, by numbers, all ahead of what the MEN do; the seeds by the formula
        NineTimes y = Check.of("county a quota 9 pays 1 guard 5;county b quota 9 pays 1 guard 0;man k at a signs 0;"
            + "man l at b signs 1;man m at a signs 2;man n at a signs 3;");
        y.seed(4242);
        y.weeks(1);
        long seed = 4242;
        int taken = 0;
        for (int man = 0; man < 4; man++) {
            seed = (1103515245L * seed + 12345) % 2147483648L;
            taken += man != 1 && seed / 64 % 100 < 50 ? 1 : 0;
        }
        Check.due("four DRAWS", y.chance(1), taken);
        Check.due("their seed", y.has(12), seed);
        Check.due("at the front", y.has(6), taken);
        NineTimes z = Check.of(LINE);
        z.guard(3, 9);
        Check.due("one ACT", z.chance(16) >= 0 ? z.has(11) : -9, 2);
    }

    /** Promises 24 and 25. */
    private static void payAndGuard() {
        NineTimes x = Check.of(THREE);
        Check.due("pay 0", x.pay(0, 0), true);
        Check.due("pays 0", x.county(0, 1), 0);
        Check.due("pay 999", x.pay(0, 999), true);
        Check.due("pays 999", x.county(0, 1), 999);
        Check.due("pay 999 again", x.pay(0, 999), false);
        Check.due("pay 1000", x.pay(0, 1000), false);
        Check.due("pay -1", x.pay(0, -1), false);
        Check.due("pay of none", x.pay(3, 5), false);
        Check.due("pay of none", x.pay(-1, 5), false);
        Check.due("refused", x.status(3), 5);
        Check.due("guard 9 already", x.guard(2, 9), false);
        Check.due("guard 0", x.guard(2, 0), true);
        Check.due("guard 0", x.county(2, 2), 0);
        Check.due("guard 9", x.guard(2, 9), true);
        Check.due("guard 10", x.guard(2, 10), false);
        Check.due("guard -1", x.guard(2, -1), false);
        Check.due("guard of none", x.guard(3, 5), false);
        Check.due("guard of none", x.guard(-1, 5), false);
        Check.due("refused", x.status(3), 10);
        Check.due("ACTS", x.has(11), 4);
        Check.due("nothing KEPT", x.has(9), 0);
        x.pay(0, 7);
        x.weeks(1);
        Check.due("he gets it", x.man(0, 4), 7);
    }

    /** Promise 26. */
    private static void tell() {
        NineTimes x = Check.of(THREE);
        Check.due("tell", x.tell(0, 0), true);
        Check.due("there", x.known(0, 0), 0);
        Check.due("not elsewhere", x.known(0, 1), NONE);
        Check.due("again", x.tell(0, 0), false);
        Check.due("none such", x.tell(2, 0), false);
        Check.due("none such", x.tell(-1, 0), false);
        Check.due("none such", x.tell(0, 3), false);
        Check.due("none such", x.tell(0, -1), false);
        Check.due("refused", x.status(3), 5);
        Check.due("ACTS", x.has(11), 1);
        x.weeks(1);
        isMan(x, 0, 0, 3, 0, 0, 0);
        // one under way may be told of, one of like signs too
        NineTimes y = Check.of("county a quota 9 pays 1 guard 0;man k at a signs 1;man l at a signs 1;post 5;");
        y.weeks(2);
        Check.due("under way", y.known(0, 0), 4);
        Check.due("tell", y.tell(0, 0), true);
        Check.due("there", y.known(0, 0), 0);
        Check.due("tell of another", y.tell(1, 0), true);
        y.undo();
        y.undo();
        Check.due("under way again", y.known(0, 0), 4);
        y.weeks(4);
        Check.due("it came", y.tell(0, 0), false);
    }

    /** Promise 27. */
    private static void undo() {
        NineTimes x = Check.of(THREE);
        Check.due("none", x.undo(), false);
        Check.due("refused", x.status(4), 1);
        x.weeks(4);
        x.pay(0, 1);
        x.guard(1, 2);
        x.tell(1, 2);
        x.chance(5);
        Check.due("ACTS", x.has(11), 5);
        long seed = x.has(12);
        x.undo();
        Check.due("the seed stays", x.has(12), seed);
        Check.due("told of", x.known(1, 2), 0);
        Check.due("WEEK", x.has(3), 4);
        x.undo();
        Check.due("not told of", x.known(1, 2), 3);
        x.undo();
        Check.due("guard", x.county(1, 2), 1);
        Check.due("pay", x.county(0, 1), 1);
        x.undo();
        Check.due("pay", x.county(0, 1), 300);
        Check.due("KEPT", x.has(9), 4);
        x.undo();
        Check.due("KEPT", x.has(9), 0);
        Check.due("WEEK", x.has(3), 0);
        Check.due("caught as at first", x.caught(1), 9);
        Check.due("none", x.undo(), false);
        for (int k = 1; k <= 25; k++) {
            x.pay(0, k);
            Check.due("ACTS", x.has(11), Math.min(20, k));
        }
        for (int k = 24; k >= 5; k--) {
            Check.due("undo", x.undo(), true);
            Check.due("pay", x.county(0, 1), k);
        }
        Check.due("20 at most", x.undo(), false);
        Check.due("it stays", x.county(0, 1), 5);
        // undo of what put the oldest of KEPT out of the row
        NineTimes y = Check.of(LINE);
        y.weeks(13);
        Check.due("KEPT", y.has(9), 54);
        y.weeks(5);
        Check.due("KEPT", y.has(9), 60);
        y.undo();
        Check.due("KEPT", y.has(9), 54);
        Check.due("the oldest", y.kept(0, 0) * 10 + y.kept(0, 3), 1);
        Check.due("the youngest", y.kept(53, 0) * 10 + y.kept(53, 3), 121);
    }

    /** Promise 28. */
    private static void seed() {
        NineTimes x = new NineTimes();
        Check.due("seed", x.seed(0), true);
        Check.due("0", x.has(12), 0);
        Check.due("seed", x.seed(Integer.MAX_VALUE), true);
        Check.due("MAX", x.has(12), Integer.MAX_VALUE);
        Check.due("seed", x.seed(-1), false);
        Check.due("seed", x.seed(Integer.MIN_VALUE), false);
        Check.due("MAX", x.has(12), Integer.MAX_VALUE);
        Check.due("refused", x.status(5), 2);
        Check.due("no ACT", x.has(11), 0);
    }

    /** Promise 29. */
    private static void kept() {
        NineTimes x = Check.of(THREE);
        x.weeks(9);
        int[] due = {1, 111, 1002, 1112, 4101, 5102, 7003, 8113};
        Check.due("how many", x.has(9), due.length);
        for (int k = 0; k < due.length; k++) {
            int got = x.kept(k, 0) * 1000 + x.kept(k, 1) * 100 + x.kept(k, 2) * 10 + x.kept(k, 3);
            Check.due("kept " + k, got, due[k]);
        }
        Check.due("what 4", x.kept(0, 4), NONE);
        Check.due("what -1", x.kept(0, -1), NONE);
        Check.due("none such", x.kept(8, 0), NONE);
        Check.due("none such", x.kept(-1, 0), NONE);
        NineTimes y = Check.of(LINE);
        y.weeks(20);
        Check.due("60 of 66", y.has(9), 60);
        Check.due("the 7th", y.kept(0, 0) * 1000 + y.kept(0, 1) * 100 + y.kept(0, 2) * 10 + y.kept(0, 3), 1002);
        Check.due("the last", y.kept(59, 0) * 1000 + y.kept(59, 1) * 100 + y.kept(59, 2) * 10 + y.kept(59, 3), 15553);
        Check.due("none such", y.kept(60, 0), NONE);
        NineTimes z = Check.of(THREE + "jumps 1=2;");
        z.weeks(2);
        Check.due("to the front", z.kept(3, 0) * 1000 + z.kept(3, 1) * 100 + z.kept(3, 2) * 10 + z.kept(3, 3), 1114);
    }

    /** Promises 30 and 31. */
    private static void image() {
        NineTimes x = Check.of(THREE);
        x.weeks(2);
        int[] due = {0, 2, 1, 1, 44, 3, 0, 1, 244, 1, 1, 0, 200, 9,
            1, 1, 2, 1, 1, 44, 3, 5, 8, 0, 1, 2, 1, 1, 244, 5, 3, 6, 0};
        due = Check.with(due, 0, 0);
        Check.due("bytes", x.image(), due.length);
        for (int k = 0; k < due.length; k++) {
            Check.due("octet " + k, x.octet(k), due[k]);
        }
        Check.due("none such", x.octet(33), NONE);
        Check.due("none such", x.octet(-1), NONE);
        x.weeks(5);
        Check.due("the latest image", x.octet(1), 2);
        Check.war(x, "");
        Check.due("the latest image", x.octet(1), 2);
        Check.due("bytes", x.image(), 3);
        Check.due("none such", x.octet(3), NONE);
        // a LETTER that is there is 1, however long
        NineTimes y = Check.of(ALONE);
        y.tell(0, 0);
        y.weeks(100);
        y.weeks(100);
        y.weeks(100);
        int[] image = Check.image(y);
        Check.due("WEEK 300", image[0] * 1000 + image[1], 1044);
        Check.due("it is there", image[12], 1);
        Check.due("caught", image[7], 3);
    }

    /** Promise 32. */
    private static void on() {
        NineTimes x = Check.of(THREE);
        x.weeks(2);
        int[] image = Check.image(x);
        x.weeks(7);
        x.seed(9);
        Check.tape(x, 0, 1);
        x.see();
        Check.tape(x, image);
        Check.due("on", x.on(), true);
        Check.due("the tape went", x.end(1), false);
        Check.due("WEEK", x.has(3), 2);
        Check.due("nothing KEPT", x.has(9), 0);
        Check.due("no ACT", x.has(11), 0);
        Check.due("no undo", x.undo(), false);
        Check.due("the seed stays", x.has(12), 9);
        Check.due("SEEN stays", x.has(10), 1);
        isMan(x, 0, 1, 1, 2, 1, 300, 5);
        Check.due("letters", x.known(0, 2), 7);
        Check.due("caught as due", x.caught(1), 7);
        int[] again = Check.image(x);
        for (int k = 0; k < image.length; k++) {
            Check.due("octet " + k, again[k], image[k]);
        }
        // the most of all
        int[] most = image.clone();
        int[][] put = {{0, 3}, {1, 231}, {2, 2}, {3, 3}, {4, 231}, {5, 9}, {14, 2}, {16, 99}, {17, 99}, {18, 39}, {19, 15},
            {20, 255}, {21, 0}};
        for (int[] p : put) {
            most = Check.with(most, p[0], p[1]);
        }
        Check.tape(x, most);
        Check.due("on", x.on(), true);
        Check.due("WEEK", x.has(3), 999);
        Check.due("pays", x.county(0, 1), 999);
        Check.due("letter", x.known(0, 0), 254);
        Check.due("letter", x.known(0, 1), NONE);
        isMan(x, 0, 2, 1, 99, 99, 9999, 5);
        Check.due("a letter of 255", Check.image(x)[20], 255);
        // the quotas told are those of the text, not those left
        NineTimes y = Check.of(ALONE);
        int[] first = Check.image(y);
        y.weeks(9);
        Check.tape(y, first);
        Check.due("on", y.on(), true);
        Check.due("quota", y.county(0, 0), 2);
    }

    private static void onRefused() {
        NineTimes x = Check.of(THREE);
        x.weeks(2);
        int[] image = Check.image(x);
        x.weeks(1);
        int[][] bad = {{0, 4}, {1, -1}, {2, 3}, {6, 2}, {3, 4}, {5, 10}, {14, 3}, {15, 0}, {15, 5}, {15, 2}, {15, 255},
            {16, 0}, {16, 100}, {17, 100}, {18, 40}, {19, -1}, {24, 4}, {3, 255}};
        int refused = 0;
        for (int[] b : bad) {
            int[] other = image;
            if (b[0] == 1) {
                other = Check.with(Check.with(image, 0, 3), 1, 232);
            } else if (b[0] == 19) {
                other = Check.with(Check.with(image, 18, 39), 19, 16);
            } else if (b[0] == 3 && b[1] == 4) {
                other = Check.with(Check.with(image, 3, 3), 4, 232);
            } else {
                other = Check.with(image, b[0], b[1]);
            }
            Check.tape(x, other);
            refused++;
            Check.due("on of byte " + b[0] + " " + b[1], x.on(), false);
            Check.due("refused", x.status(5), refused);
            Check.due("the tape went", x.end(1), false);
            Check.due("all stays", x.has(3) * 100 + x.has(9) * 10 + x.has(11), 342);
        }
        int[] last = image.clone();
        last[32] ^= 1;
        Check.tape(x, last);
        Check.due("another last byte", x.on(), false);
        Check.tape(x, java.util.Arrays.copyOf(image, 32));
        Check.due("too short", x.on(), false);
        Check.tape(x, Check.with(java.util.Arrays.copyOf(image, 34), 32, 0));
        Check.due("too long", x.on(), false);
        Check.tape(x);
        Check.due("none", x.on(), false);
        Check.due("refused", x.status(5), refused + 4);
        Check.due("status", x.status(0) + x.status(1) + x.status(2) + x.status(3) + x.status(4), refused);
        // not on the ROAD, but WEEKS left
        int[] free = Check.with(Check.with(image, 15, 0), 16, 0);
        Check.tape(x, Check.with(free, 16, 1));
        Check.due("WEEKS left of one who is FREE", x.on(), false);
        Check.tape(x, free);
        Check.due("one who is FREE", x.on(), true);
        Check.due("status(6)", x.status(6), NONE);
        Check.due("status(-1)", x.status(-1), NONE);
    }

    /** WEEK 999 is the last one: of promises 12 to 14, 17, 22, 23. */
    private static void lastWeek() {
        NineTimes x = Check.of(ALONE);
        Check.tape(x, Check.with(Check.with(Check.image(x), 0, 3), 1, 230));
        Check.due("on", x.on(), true);
        Check.due("WEEK", x.has(3), 998);
        Check.due("2 weeks", x.weeks(2), NONE);
        Check.due("2 by the seed", x.chance(2), NONE);
        Check.due("refused", x.status(2), 2);
        Check.due("later", x.later(0, 1, 0), 2);
        Check.due("later beyond", x.later(0, 2, 0), NONE);
        Check.due("best", x.best(0, 1, 1), 1);
        Check.due("best beyond", x.best(0, 2, 1), NONE);
        Check.due("filled beyond", x.filled(), NONE);
        Check.due("caught beyond", x.caught(0), NONE);
        Check.due("a week", x.weeks(1), 1);
        Check.due("a week more", x.weeks(1), NONE);
        Check.due("WEEK", x.has(3), 999);
        Check.due("later now", x.later(0, 0, 0), 2);
        Check.due("later", x.later(0, 1, 0), NONE);
        Check.due("best", x.best(0, 1, 0), NONE);
    }
}
