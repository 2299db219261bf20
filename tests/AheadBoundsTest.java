/** The bounds that part III of 'Terms' names: AHEAD, a ROUND, LURED, BEST, MARKS, STAFFED, SEEN, AN IMAGE. */
public final class AheadBoundsTest {
    private static final int NONE = -1;
    private static final int LETTER = 12;

    private AheadBoundsTest() {
    }

    public static void main(String[] args) {
        eightyAhead();
        notBeyondTheLastWeek();
        aheadWithoutDraws();
        roundOfOneWhoIsFree();
        roundFromWhereHeIs();
        roundOfUnlikeCounties();
        roundByAQuotaNow();
        roundByLettersOfNow();
        roundByLettersHeSends();
        roundByLettersPastOthers();
        roundOfWhatTheyPayNow();
        roundSoonest();
        roundShortest();
        roundFirst();
        luredByTheLeast();
        luredBehindAndAhead();
        luredByLikes();
        bestBySteps();
        bestOfLikeOnes();
        bestOfAllQuotas();
        bestOfPayFromNowOn();
        marksFewest();
        staffedNoMoreThan();
        seenRows();
        telling();
        imageOfLetters();
        imageOfAll();
        lastByte();
        Check.finish();
    }

    private static void due(String what, long got, long want) {
        Check.due(what, got, want);
    }

    private static NineTimes alone(int quota, int pays, String more) {
        return Check.of(Check.county("a", quota, pays, 0) + Check.man("m", "a", 1) + more);
    }

    private static void toWeek(NineTimes x, int week) {
        Check.set(x, 0, week / 256, 1, week % 256);
        due("WEEK", x.has(3), week);
    }

    /** AHEAD are WEEKS as they come (80 at most). */
    private static void eightyAhead() {
        for (int in = 78; in <= 81; in++) {
            NineTimes caught = alone(0, 0, "");
            Check.set(caught, LETTER, in + 1);
            due("CAUGHT by a LETTER there in " + in, caught.caught(0), in < 80 ? in + 1 : NONE);
            NineTimes filled = alone(1, 0, "");
            Check.set(filled, 7, 1, 8, in);
            due("filled by one FREE in " + in, filled.filled(), in < 80 ? in + 1 : NONE);
            due("he is FREE behind 78 WEEKS", filled.later(0, 78, 0), in > 78 ? 1 : 0);
            due("he is in the TRAIN behind 80 WEEKS", filled.later(0, 80, 0), in == 80 ? 0 : in == 81 ? 1 : in == 79 ? 2 : 0);
            due("81 WEEKS", filled.later(0, 81, 0), NONE);
        }
    }

    /** Not beyond WEEK 999. */
    private static void notBeyondTheLastWeek() {
        int[] weeks = {919, 920, 959, 960, 997, 998, 999};
        for (int week : weeks) {
            NineTimes x = alone(1, 7, "");
            toWeek(x, week);
            int most = Math.min(80, 999 - week);
            due("later, the most in " + week, x.later(0, most, 0) == NONE ? 0 : 1, 1);
            due("later, one more in " + week, x.later(0, most + 1, 0), NONE);
            int mostBest = Math.min(40, 999 - week);
            due("best, the most in " + week, x.best(0, mostBest, 1), mostBest > 0 ? 0 : NONE);
            due("best, one more in " + week, x.best(0, mostBest + 1, 1), NONE);
            due("filled in " + week, x.filled(), week < 999 ? 1 : NONE);
            due("the WEEK stays", x.has(3), week);
            NineTimes y = alone(0, 0, "");
            Check.set(y, 0, week / 256, 1, week % 256, LETTER, 2);
            due("CAUGHT in " + week, y.caught(0), week < 998 ? 2 : NONE);
            Check.set(y, LETTER, 1);
            due("CAUGHT at once in " + week, y.caught(0), week < 999 ? 1 : NONE);
            Check.set(y, 7, 3);
            due("he is CAUGHT in " + week, y.caught(0), 0);
            due("filled now in " + week, y.filled(), 0);
        }
    }

    /** Without DRAWS, and nothing of it stays. */
    private static void aheadWithoutDraws() {
        NineTimes x = Check.of(Check.county("a", 2, 5, 9) + Check.county("b", 1, 6, 9) + Check.rail("a", "b", 1)
            + Check.man("m", "a", 1) + Check.man("n", "b", 2));
        x.weeks(1);
        x.image();
        String before = Check.whole(x);
        due("he JUMPS", x.later(0, 1, 0), 1);
        // b is full: he comes back to a, FREE in WEEK 4, CAUGHT in WEEK 5
        due("CAUGHT", x.caught(0), 5);
        x.caught(1);
        x.filled();
        x.round(0, 0);
        x.lured(0, 1);
        x.best(1, 40, 0);
        x.marks();
        x.staffed(1);
        x.later(1, 80, 3);
        String after = Check.whole(x);
        Check.due("all is as before: " + before + " / " + after, after.equals(before), true);
    }

    private static void isRound(String what, NineTimes x, int gain, int comes, int... row) {
        for (int k = 0; k < 4; k++) {
            due(what + ": round(0, " + k + ")", x.round(0, k), k < row.length ? row[k] : NONE);
        }
        due(what + ": what he gets", x.round(0, 4), gain);
        due(what + ": when he comes", x.round(0, 5), comes);
    }

    private static void noRound(String what, NineTimes x) {
        isRound(what, x, NONE, NONE);
    }

    /** a pays 10, b pays 5, 3 WEEKS between them: a, then b in WEEK 4. */
    private static String two(String more) {
        return Check.county("a", 1, 10, 0) + Check.county("b", 1, 5, 0) + Check.rail("a", "b", 3)
            + Check.man("m", "a", 1) + more;
    }

    private static void roundOfOneWhoIsFree() {
        for (int is = 0; is <= 4; is++) {
            NineTimes x = Check.of(two(""));
            Check.set(x, 11, is, 12, is == 1 ? 1 : 0);
            if (is == 0) {
                isRound("FREE", x, 15, 4, 0, 1);
            } else {
                noRound("he is " + is, x);
            }
        }
    }

    /** The first one may be where he is, or he comes to it by the way from where he is. */
    private static void roundFromWhereHeIs() {
        NineTimes x = Check.of(two(""));
        isRound("from a", x, 15, 4, 0, 1);
        Check.set(x, 10, 1);
        isRound("from b", x, 15, 4, 1, 0);
        // each MAN by his own COUNTY and by his own signs
        NineTimes w = Check.of(two(Check.man("n", "b", 2) + Check.man("o", "b", 3)));
        w.tell(2, 0);
        int[][] due = {{0, 1, 15, 4}, {1, 0, 15, 4}, {1, NONE, 5, 0}};
        for (int man = 0; man < 3; man++) {
            due("the first of " + man, w.round(man, 0), due[man][0]);
            due("the second of " + man, w.round(man, 1), due[man][1]);
            due("what he gets, of " + man, w.round(man, 4), due[man][2]);
            due("when he comes, of " + man, w.round(man, 5), due[man][3]);
        }
        // no way there: that COUNTY alone
        NineTimes y = Check.of(Check.county("a", 1, 10, 0) + Check.county("b", 1, 500, 0) + Check.man("m", "a", 1));
        isRound("no way", y, 10, 0, 0);
        NineTimes z = Check.of(Check.county("a", 0, 10, 0) + Check.county("b", 1, 500, 0) + Check.man("m", "a", 1));
        noRound("no way", z);
    }

    /** A row of 1 to 4 unlike COUNTIES. */
    private static void roundOfUnlikeCounties() {
        isRound("one COUNTY of a large quota", alone(20, 5, "post 9;"), 5, 0, 0);
        StringBuilder text = new StringBuilder("post 9;");
        for (int n = 1; n <= 6; n++) {
            String name = "" + (char) ('a' + n - 1);
            text.append(Check.county(name, 1, 1, 0));
            if (n > 1) {
                text.append(Check.rail(name, "" + (char) ('a' + n - 2), 1));
            }
            NineTimes x = Check.of(text + Check.man("m", "a", 1));
            int[] row = new int[Math.min(4, n)];
            for (int k = 0; k < row.length; k++) {
                row[k] = k;
            }
            isRound(n + " COUNTIES", x, row.length, 2 * row.length - 2, row);
        }
    }

    /** Each of them with a quota now. */
    private static void roundByAQuotaNow() {
        noRound("a quota of 0", alone(0, 5, ""));
        isRound("a quota of 1", alone(1, 5, ""), 5, 0, 0);
        NineTimes x = Check.of(two(""));
        Check.set(x, 2, 0);
        isRound("the quota of a is 0", x, 5, 3, 1);
        Check.set(x, 2, 1, 6, 0);
        isRound("the quota of b is 0", x, 10, 0, 0);
        Check.set(x, 2, 0);
        noRound("both are 0", x);
    }

    /** In none KNOWN when he comes (by LETTERS of now). */
    private static void roundByLettersOfNow() {
        NineTimes x = Check.of(two(""));
        int inB = 17;
        Check.set(x, inB, 6);
        isRound("a LETTER in b behind 5 WEEKS", x, 15, 4, 0, 1);
        Check.set(x, inB, 5);
        isRound("a LETTER in b behind 4 WEEKS", x, 15, 7, 1, 0);
        Check.set(x, inB, 4);
        isRound("a LETTER in b behind 3 WEEKS", x, 10, 0, 0);
        Check.set(x, inB, 1);
        isRound("a LETTER in b", x, 10, 0, 0);
        Check.set(x, inB - 1, 1);
        noRound("KNOWN in both", x);
        Check.set(x, inB - 1, 2, inB, 0);
        isRound("a LETTER in a behind 1 WEEK", x, 15, 4, 0, 1);
        // of another MAN: if he has like signs
        for (int signs = 0; signs < 3; signs++) {
            NineTimes y = Check.of(two(Check.man("n", "b", signs)));
            y.tell(1, 1);
            if (signs == 1) {
                isRound("one of like signs is KNOWN in b", y, 10, 0, 0);
            } else {
                isRound("one of unlike signs is KNOWN in b", y, 15, 4, 0, 1);
            }
        }
        // the WEEK counts
        NineTimes z = Check.of(two(""));
        toWeek(z, 500);
        Check.set(z, inB, 5);
        isRound("a LETTER in b behind 4 WEEKS", z, 15, 7, 1, 0);
    }

    /** And by those that he sends: JUMPED a WEEK later, there by way and post. */
    private static void roundByLettersHeSends() {
        isRound("post 0", Check.of(two("post 0;")), 10, 0, 0);
        isRound("post 1", Check.of(two("post 1;")), 15, 4, 0, 1);
        isRound("post 9", Check.of(two("post 9;")), 15, 4, 0, 1);
        isRound("without", Check.of(two("")), 15, 4, 0, 1);
    }

    /** A LETTER of the first one goes to the third one by a way of its own. */
    private static void roundByLettersPastOthers() {
        String three = Check.county("a", 1, 100, 0) + Check.county("b", 1, 100, 0) + Check.county("c", 1, 100, 0)
            + Check.rail("a", "b", 2) + Check.rail("b", "c", 2) + Check.rail("a", "c", 3) + Check.man("m", "a", 1);
        // a, b in WEEK 3, c in WEEK 6: the LETTER of a is in c in WEEK 4 + post
        isRound("it comes with him", Check.of(three + "post 2;"), 200, 3, 0, 1);
        isRound("it comes a WEEK later", Check.of(three + "post 3;"), 300, 6, 0, 1, 2);
        // the last one sends none: of four the last one's LETTER changes nothing
        isRound("one COUNTY by post 0", alone(5, 5, "post 0;"), 5, 0, 0);
    }

    /** By which he gets most (what they pay now, together). */
    private static void roundOfWhatTheyPayNow() {
        NineTimes x = Check.of(two("jumps week>999;"));
        isRound("the TEST of jumps is not asked", x, 15, 4, 0, 1);
        x.pay(0, 999);
        x.pay(1, 999);
        // his purse has no more than 9999, what he gets is more
        Check.set(x, 14, 39, 15, 15);
        isRound("all is paid", x, 1998, 4, 0, 1);
        x.pay(0, 0);
        x.pay(1, 0);
        isRound("none is paid", x, 0, 0, 0);
    }

    /** Of like ones in which he comes to the last one soonest. */
    private static void roundSoonest() {
        String three = Check.county("a", 0, 0, 0) + Check.county("b", 1, 9, 0) + Check.county("c", 1, 9, 0)
            + Check.man("m", "a", 1) + "post 0;";
        isRound("c is nearer", Check.of(three + Check.rail("a", "b", 3) + Check.rail("a", "c", 2)), 9, 2, 2);
        isRound("b is nearer", Check.of(three + Check.rail("a", "b", 2) + Check.rail("a", "c", 3)), 9, 2, 1);
        // a longer row that comes sooner: a and c by WEEK 3, d by WEEK 4
        String four = Check.county("a", 1, 5, 0) + Check.county("b", 0, 0, 0) + Check.county("c", 1, 5, 0)
            + Check.county("d", 1, 10, 0) + Check.man("m", "a", 1) + "post 1;" + Check.rail("a", "c", 2);
        NineTimes x = Check.of(four + Check.rail("a", "d", 4));
        // known in a from WEEK 3 on, in c and d from WEEK 5 on
        Check.set(x, 24, 4, 26, 6, 27, 6);
        isRound("the longer row", x, 10, 3, 0, 2);
    }

    /** Of like ones the shortest row. */
    private static void roundShortest() {
        String four = Check.county("a", 1, 5, 0) + Check.county("b", 0, 0, 0) + Check.county("c", 1, 5, 0)
            + Check.county("d", 1, 10, 0) + Check.man("m", "a", 1) + "post 1;" + Check.rail("a", "c", 2)
            + Check.rail("a", "d", 3);
        NineTimes x = Check.of(four);
        // known in a from WEEK 3 on, in c and d from WEEK 4 on: a and c, or d alone, by WEEK 3
        Check.set(x, 24, 4, 26, 5, 27, 5);
        isRound("one COUNTY", x, 10, 3, 3);
        // shorter, not sooner: as the first of like ones
        NineTimes y = Check.of(Check.county("a", 1, 0, 0) + Check.county("b", 1, 0, 0) + Check.rail("a", "b", 1)
            + Check.man("m", "a", 1));
        isRound("none pays", y, 0, 0, 0);
    }

    /** Then the first one. */
    private static void roundFirst() {
        String three = Check.county("a", 0, 0, 0) + Check.county("b", 1, 9, 0) + Check.county("c", 1, 9, 0)
            + Check.rail("a", "b", 2) + Check.rail("a", "c", 2) + Check.man("m", "a", 1);
        isRound("of two alone", Check.of(three + "post 0;"), 9, 2, 1);
        isRound("of two rows", Check.of(three + "post 9;"), 18, 7, 1, 2);
    }

    /** By the least it can pay (0 .. 999). */
    private static void luredByTheLeast() {
        String three = Check.county("a", 0, 999, 0) + Check.county("b", 0, 500, 0) + Check.county("c", 0, 500, 0)
            + Check.rail("a", "b", 1) + Check.rail("a", "c", 1) + Check.man("m", "a", 1);
        int[][] rows = {{0, 0, 1}, {1, 1, 2}, {998, 998, 999}, {999, 999, NONE}};
        for (int[] row : rows) {
            NineTimes x = Check.of(three);
            Check.set(x, 7, row[0] / 256, 8, row[0] % 256);
            due("behind one that pays " + row[0], x.lured(0, 2), row[2]);
            NineTimes y = Check.of(three);
            Check.set(y, 11, row[0] / 256, 12, row[0] % 256);
            due("ahead of one that pays " + row[0], y.lured(0, 1), row[1]);
        }
    }

    private static void luredBehindAndAhead() {
        String text = Check.county("a", 0, 999, 0) + Check.county("b", 0, 30, 0) + Check.county("c", 0, 20, 0)
            + Check.county("d", 0, 40, 0) + Check.county("e", 0, 999, 0) + Check.rail("a", "b", 1)
            + Check.rail("b", "c", 1) + Check.rail("c", "d", 1) + Check.man("m", "a", 1);
        NineTimes x = Check.of(text);
        int[] due = {NONE, 40, 40, 31, NONE};
        for (int county = 0; county < 5; county++) {
            // where he is, and without a way, by nothing
            due("LURED to " + county, x.lured(0, county), due[county]);
        }
        // of all COUNTIES but his, the first and the last one, too
        NineTimes w = Check.of(text.replace("at a", "at c").replace("pays 999", "pays 50"));
        int[] fromC = {40, 51, NONE, 51, NONE};
        for (int county = 0; county < 5; county++) {
            due("LURED from c to " + county, w.lured(0, county), fromC[county]);
        }
        for (int is = 1; is <= 4; is++) {
            NineTimes y = Check.of(text);
            Check.set(y, 23, is, 24, is == 1 ? 1 : 0);
            due("one who is " + is, y.lured(0, 1), NONE);
        }
        // the only one there is: by 0
        NineTimes z = Check.of(two(""));
        due("the only one", z.lured(0, 1), 0);
    }

    private static void luredByLikes() {
        String three = Check.county("a", 0, 0, 0) + Check.county("b", 3, 5, 0) + Check.county("c", 2, 5, 0)
            + Check.rail("a", "b", 4) + Check.rail("a", "c", 9) + Check.man("m", "a", 1);
        String[] likes = {"likes pays-far;", "likes 0-pays;", "likes quota;", "likes 0-quota;", "likes quota*10+pays;", "likes pays/100;", "likes if(pays=999,1,0);",
            "likes if(pays=0,1,0);", "likes pays%10;", "likes 5;", "likes 0-9999*9999-pays;"};
        int[] b = {0, 0, 0, NONE, 0, 0, 0, 0, 5, 0, 0};
        int[] c = {11, 0, NONE, 0, 16, 100, 999, 0, 6, NONE, NONE};
        for (int k = 0; k < likes.length; k++) {
            NineTimes x = Check.of(three + likes[k]);
            due("LURED to b by " + likes[k], x.lured(0, 1), b[k]);
            due("LURED to c by " + likes[k], x.lured(0, 2), c[k]);
        }
    }

    /** By steps of 37: 0, 37, 74 .. 999. */
    private static void bestBySteps() {
        // m goes from a to b, or to c that must pay more (behind b) or as much (ahead of it)
        int[][] rows = {{0, 37, 0}, {36, 37, 37}, {37, 74, 37}, {38, 74, 74}, {961, 962, 962}, {962, 999, 962},
            {998, 999, 999}, {999, NONE, 999}};
        for (int[] row : rows) {
            NineTimes x = Check.of(Check.county("a", 0, 0, 0) + Check.county("b", 1, row[0], 0) + Check.county("c", 9, 0, 0)
                + Check.rail("a", "b", 1) + Check.rail("a", "c", 1) + Check.man("m", "a", 1));
            due("behind one that pays " + row[0], x.best(2, 3, 0), Math.max(0, row[1]));
            due("what is left", x.best(2, 3, 1), row[1] == NONE ? 9 : 8);
            NineTimes y = Check.of(Check.county("a", 0, 0, 0) + Check.county("b", 9, 0, 0) + Check.county("c", 1, row[0], 0)
                + Check.rail("a", "b", 1) + Check.rail("a", "c", 1) + Check.man("m", "a", 1));
            due("ahead of one that pays " + row[0], y.best(1, 3, 0), row[2]);
            due("what is left", y.best(1, 3, 1), 8);
        }
    }

    /** Leaves it least of its quota behind n WEEKS AHEAD; of like ones the least. */
    private static void bestOfLikeOnes() {
        NineTimes x = alone(2, 500, "");
        int[] left = {1, 1, 0, 0};
        for (int n = 1; n <= 4; n++) {
            due("of like ones behind " + n, x.best(0, n, 0), 0);
            due("what is left behind " + n, x.best(0, n, 1), left[n - 1]);
        }
        // not the most it pays: a TEST by which he JUMPS for 37 .. 73 alone
        NineTimes y = alone(9, 500, "jumps pays>36 and pays<74;post 9;");
        due("one step alone", y.best(0, 3, 0), 37);
        due("what is left", y.best(0, 3, 1), 7);
        NineTimes z = alone(9, 500, "jumps pays>37 and pays<74;post 9;");
        due("between two steps", z.best(0, 3, 0), 0);
        due("what is left", z.best(0, 3, 1), 8);
    }

    /** None of the largest quota goes; all of the least one goes by a later step. */
    private static void bestOfAllQuotas() {
        NineTimes x = Check.of(Check.county("a", 20, 500, 0));
        due("none goes", x.best(0, 40, 0), 0);
        due("all 20 are left", x.best(0, 40, 1), 20);
        NineTimes y = Check.of(Check.county("a", 0, 0, 0) + Check.county("b", 1, 500, 0) + Check.county("c", 1, 0, 0)
            + Check.rail("a", "b", 1) + Check.rail("a", "c", 1) + Check.man("m", "a", 1));
        due("none is left by the 14th step", y.best(2, 3, 0), 518);
        due("none is left", y.best(2, 3, 1), 0);
        due("too early", y.best(2, 2, 1), 1);
    }

    /** Paid from now on: what it pays now stays. */
    private static void bestOfPayFromNowOn() {
        NineTimes x = alone(9, 50, "jumps purse>36;post 9;");
        x.weeks(1);
        due("his purse is 50 already", x.best(0, 2, 0), 0);
        due("what is left", x.best(0, 2, 1), 7);
        NineTimes y = alone(9, 50, "jumps purse>36;post 9;");
        due("he gets it from now on", y.best(0, 3, 0), 37);
        due("what is left", y.best(0, 3, 1), 7);
        due("it pays", y.county(0, 1), 50);
    }

    /** The fewest SIGNS (bits 0 .. 5) by which no two MEN of unlike signs are alike; of like ones the least bits. */
    private static void marksFewest() {
        int[][] signs = {{}, {63}, {5, 5}, {0, 32}, {0, 1}, {0, 63}, {0, 6}, {0, 48}, {0, 1, 2}, {0, 1, 3}, {1, 2, 4},
            {0, 3, 5}, {0, 33, 34}, {0, 1, 2, 3}, {1, 2, 4, 8}, {0, 1, 2, 4, 8, 16}, {1, 2, 4, 8, 16, 32}, {48, 17, 34, 4},
            {0, 8, 8, 0}, {7, 7, 56, 56, 0, 0}, {63, 62, 61, 59, 55, 47}};
        for (int[] row : signs) {
            StringBuilder text = new StringBuilder(Check.county("a", 0, 0, 0));
            for (int k = 0; k < row.length; k++) {
                text.append(Check.man("m" + (char) ('a' + k), "a", row[k]));
            }
            int best = 63;
            for (int bits = 63; bits >= 0; bits--) {
                boolean parts = true;
                for (int s : row) {
                    for (int t : row) {
                        parts &= s == t || (s & bits) != (t & bits);
                    }
                }
                best = parts && Integer.bitCount(bits) <= Integer.bitCount(best) ? bits : best;
            }
            due("MARKS of " + java.util.Arrays.toString(row), Check.of(text.toString()).marks(), best);
        }
        due("six MEN", Check.of(Check.county("a", 0, 0, 0) + Check.man("k", "a", 0) + Check.man("l", "a", 1)
            + Check.man("m", "a", 2) + Check.man("n", "a", 4) + Check.man("o", "a", 8) + Check.man("p", "a", 16)).marks(), 31);
        due("all six SIGNS are never needed by six MEN", Check.of(Check.county("a", 0, 0, 0) + Check.man("k", "a", 1)
            + Check.man("l", "a", 2) + Check.man("m", "a", 4) + Check.man("n", "a", 8) + Check.man("o", "a", 16)
            + Check.man("p", "a", 32)).marks(), 31);
    }

    /** No more than n WEEKS from one of them (0 from itself); of like ones the least bits. */
    private static void staffedNoMoreThan() {
        NineTimes none = new NineTimes();
        due("no COUNTIES", none.staffed(0), 0);
        due("no COUNTIES", none.staffed(99), 0);
        NineTimes one = alone(0, 0, "");
        due("one COUNTY", one.staffed(0), 1);
        NineTimes x = Check.of(two(""));
        int[] due = {3, 3, 3, 1, 1};
        for (int n = 0; n < due.length; n++) {
            due("3 WEEKS between them, by " + n, x.staffed(n), due[n]);
        }
        // b alone reaches all by 2; a and c, a and d .. are like ones by 1
        NineTimes y = Check.of(Check.county("a", 0, 0, 0) + Check.county("b", 0, 0, 0) + Check.county("c", 0, 0, 0)
            + Check.county("d", 0, 0, 0) + Check.rail("a", "b", 1) + Check.rail("b", "c", 1) + Check.rail("c", "d", 1));
        int[] line = {15, 5, 2, 1};
        for (int n = 0; n < line.length; n++) {
            due("a line by " + n, y.staffed(n), line[n]);
        }
        // 54 WEEKS from end to end; no way: each by itself
        StringBuilder text = new StringBuilder();
        for (char c = 'a'; c <= 'g'; c++) {
            text.append(Check.county("" + c, 0, 0, 0));
        }
        due("no way", Check.of(text.toString()).staffed(99), 127);
        for (char c = 'b'; c <= 'g'; c++) {
            text.append(Check.rail("" + c, "" + (char) (c - 1), 9));
        }
        NineTimes z = Check.of(text.toString());
        int[][] far = {{8, 127}, {27, 8}, {36, 4}, {45, 2}, {53, 2}, {54, 1}, {99, 1}};
        for (int[] f : far) {
            due("a long line by " + f[0], z.staffed(f[0]), f[1]);
        }
        for (int n = 0; n <= 60; n++) {
            due("a long line by " + n, z.staffed(n), staffedByAll(n));
        }
        due("seven, three of them", Integer.bitCount(z.staffed(9)), 3);
        due("seven, two of them", Integer.bitCount(z.staffed(26)), 2);
    }

    /** Of seven in a line by RAILS of 9: by trying all sets of them. */
    private static int staffedByAll(int n) {
        int best = 127;
        for (int bits = 127; bits >= 0; bits--) {
            int near = 0;
            for (int to = 0; to < 7; to++) {
                for (int from = 0; from < 7; from++) {
                    near |= (bits >> from & 1) == 1 && 9 * Math.abs(from - to) <= n ? 1 << to : 0;
                }
            }
            best = near == 127 && Integer.bitCount(bits) <= Integer.bitCount(best) ? bits : best;
        }
        return best;
    }

    private static int see(NineTimes x, int... rows) {
        Check.tape(x, rows);
        return x.see();
    }

    /** SEEN are rows of a SIGN (0 .. 5), 1 if he has it, else 0: MEN by whose signs all is so. */
    private static void seenRows() {
        NineTimes x = Check.of(Check.county("a", 0, 0, 0) + Check.man("k", "a", 0) + Check.man("l", "a", 63)
            + Check.man("m", "a", 21) + Check.man("n", "a", 42));
        for (int sign = 0; sign < 6; sign++) {
            int has = sign % 2 == 0 ? 2 | 4 : 2 | 8;
            due("he has it", see(x, sign, 1), 1);
            due("those with " + sign, x.who(0), has);
            due("he lacks it", see(x, sign, 0), 1);
            due("those without " + sign, x.who(0), 15 - has);
        }
        due("two rows", see(x, 0, 1, 1, 0), 2);
        due("both hold", x.who(0), 4);
        due("it contradicts itself", see(x, 0, 1, 0, 0), 2);
        due("nobody", x.who(0), 0);
        due("the last row counts", see(x, 0, 1, 0, 1, 0, 1, 0, 1, 0, 1, 0, 1, 0, 1, 0, 1, 0, 1, 0, 1, 0, 1, 0, 1, 0, 1, 0, 1, 0,
            1, 1, 1), 16);
        due("all of 16", x.who(0), 2);
        due("a shorter one", see(x, 5, 0), 1);
        due("the earlier rows are gone", x.who(0), 5);
    }

    /** TELLING is the SIGN by which the most of these left are fewest; of like ones the least. */
    private static void telling() {
        int[][] rows = {{0, 0, 2}, {0, 0, 1}, {1, 0, 1}, {32, 5, 1, 0}, {3, 1, 2, 5, 4, 6}, {63, 0, 1, 63, 0},
            {16, 16, 16, 48, 48, 32}, {9}, {1, 2}, {62, 60, 56, 48}};
        int[] sign = {1, 0, 0, 0, 0, 0, 5, 0, 0, 2};
        int[] left = {2, 2, 2, 2, 3, 3, 3, 1, 1, 2};
        for (int k = 0; k < rows.length; k++) {
            StringBuilder text = new StringBuilder(Check.county("a", 0, 0, 0));
            for (int m = 0; m < rows[k].length; m++) {
                text.append(Check.man("m" + (char) ('a' + m), "a", rows[k][m]));
            }
            NineTimes x = Check.of(text.toString());
            due("TELLING of " + java.util.Arrays.toString(rows[k]), x.who(1), sign[k]);
            due("left at the most", x.who(2), left[k]);
        }
        // of these left alone
        NineTimes x = Check.of(Check.county("a", 0, 0, 0) + Check.man("k", "a", 1) + Check.man("l", "a", 1)
            + Check.man("m", "a", 33) + Check.man("n", "a", 34) + Check.man("o", "a", 2));
        see(x, 5, 0);
        due("three of them", x.who(0), 19);
        due("TELLING", x.who(1), 0);
        due("left at the most", x.who(2), 2);
        see(x, 4, 1);
        due("none of them", x.who(0), 0);
        due("without TELLING", x.who(1), NONE);
        due("without any left", x.who(2), NONE);
    }

    /** In how many WEEKS a LETTER that tells of him is there (first), and 1 (0 none; 1 it is there; 255 at most). */
    private static void imageOfLetters() {
        NineTimes x = alone(0, 0, "");
        x.image();
        due("none", x.octet(LETTER), 0);
        x.tell(0, 0);
        x.image();
        due("it is there", x.octet(LETTER), 1);
        x.weeks(100);
        x.image();
        due("it is there for long", x.octet(LETTER), 1);
        for (int octet : new int[] {0, 1, 2, 128, 254, 255}) {
            NineTimes y = alone(0, 0, "");
            Check.set(y, LETTER, octet);
            due("known by " + octet, y.known(0, 0), octet - 1);
            y.image();
            due("the byte " + octet, y.octet(LETTER), octet);
            y.weeks(1);
            y.image();
            due("a WEEK later, of " + octet, y.octet(LETTER), octet == 0 ? 0 : Math.max(1, octet - 1));
        }
        // of another MAN of like signs it tells nothing
        NineTimes z = Check.of(Check.county("a", 0, 0, 0) + Check.man("m", "a", 1) + Check.man("n", "a", 1));
        z.tell(1, 0);
        z.image();
        due("not of himself", z.octet(12), 0);
        due("of himself", z.octet(19), 1);
        // the longest way and post: 54 and 9, sent in WEEK 1, asked in WEEK 2
        StringBuilder text = new StringBuilder("post 9;");
        for (char c = 'a'; c <= 'g'; c++) {
            text.append(Check.county("" + c, 1, 0, 0));
            text.append(c > 'a' ? Check.rail("" + c, "" + (char) (c - 1), 9) : "");
        }
        NineTimes w = Check.of(text + Check.man("m", "a", 1));
        w.weeks(2);
        w.image();
        due("the farthest LETTER", w.octet(2 + 28 + 6 + 6), 54 + 9);
    }

    /** WEEK; for each COUNTY what is left of its quota, what it pays, its guard; for each MAN ..: two bytes, the higher first. */
    private static void imageOfAll() {
        NineTimes x = Check.of(Check.county("a", 20, 999, 9) + Check.county("b", 0, 255, 0) + Check.county("c", 3, 256, 1)
            + Check.rail("a", "b", 9) + Check.man("m", "a", 1) + Check.man("n", "b", 2));
        int[] first = {0, 0, 20, 3, 231, 9, 0, 0, 255, 0, 3, 1, 0, 1, 0, 0, 0, 0, 0, 0, 0, 0, 0, 1, 0, 0, 0, 0, 0, 0, 0, 0, 0};
        int[] second = {0, 1, 19, 3, 231, 9, 0, 0, 255, 0, 3, 1, 0, 1, 0, 2, 0, 1, 3, 231, 0, 0, 0, 0, 1, 9, 0, 0, 0, 0, 0, 0,
            0};
        int[] third = {0, 2, 19, 3, 231, 9, 0, 0, 255, 0, 3, 1, 0, 1, 1, 1, 9, 1, 3, 231, 2, 11, 0, 0, 1, 8, 0, 0, 0, 0, 0, 0,
            0};
        for (int[] due : new int[][] {first, second, third}) {
            due = Check.with(due, 0, 0);
            due("bytes", x.image(), due.length);
            for (int k = 0; k < due.length; k++) {
                due("byte " + k + " in WEEK " + due[1], x.octet(k), due[k]);
            }
            x.weeks(1);
        }
        toWeek(x, 256);
        x.image();
        due("WEEK 256", x.octet(0) * 1000 + x.octet(1), 1000);
        toWeek(x, 255);
        x.image();
        due("WEEK 255", x.octet(0) * 1000 + x.octet(1), 255);
        for (int is = 0; is <= 4; is++) {
            Check.set(x, 15, is, 16, is == 1 ? 7 : 0);
            x.image();
            due("what he is", x.octet(15), is);
            due("WEEKS left", x.octet(16), is == 1 ? 7 : 0);
        }
    }

    /** Last a byte: all ahead from 181 on, c = (5 c + it) mod 251. */
    private static void lastByte() {
        NineTimes x = new NineTimes();
        for (int week = 0; week < 300; week += 100) {
            int c = 181;
            c = (5 * c + week / 256) % 251;
            c = (5 * c + week % 256) % 251;
            due("three bytes", x.image(), 3);
            due("the last byte of WEEK " + week, x.octet(2), c);
            x.weeks(100);
        }
    }
}
