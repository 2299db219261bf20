/** The bounds that part II of 'Terms' names: the way, WEEKS, going ON, the seed, what is KEPT, ACTS. */
public final class WeeksBoundsTest {
    private static final int NONE = -1;
    private static final int FREE = 0;
    private static final int ROAD = 1;
    private static final int TRAIN = 2;
    private static final int CAUGHT = 3;
    private static final int FRONT = 4;

    /** One COUNTY with one MAN: the places in its image. */
    private static final int QUOTA = 2;
    private static final int IS = 7;
    private static final int LEFT = 8;
    private static final int NAMES = 9;
    private static final int PURSE = 10;
    private static final int LETTER = 12;

    private WeeksBoundsTest() {
    }

    public static void main(String[] args) {
        shortestWays();
        atFirst();
        knownBySignsLikeHis();
        knownFromTheWeekItIsThere();
        onTheRoad();
        knownAheadOfEnlisting();
        quotaOfOneAndNone();
        purseAndNamesAtMost();
        jumpsByThatCounty();
        lettersByWayAndPost();
        earlierLetterStays();
        nothingMoreDone();
        byNumbersByWhatIsSoThen();
        goesOnToAnotherOne();
        ofLikeOnesTheFirst();
        goesOnByWhatIsSoThen();
        drawAgainstGuard();
        drawsForMenInTrainsAlone();
        drawsAheadOfTheWeek();
        drawWrapsAround();
        keptFourKinds();
        keptOfTheLastWeek();
        keptLastSixty();
        lastTwentyUndone();
        Check.finish();
    }

    private static void due(String what, long got, long want) {
        Check.due(what, got, want);
    }

    private static NineTimes alone(int quota, int pays, String more) {
        return Check.of(Check.county("a", quota, pays, 0) + Check.man("m", "a", 1) + more);
    }

    /** What the MAN is: his COUNTY, what he is, WEEKS left, names, purse. */
    private static void isMan(String what, NineTimes x, int man, int... due) {
        for (int k = 0; k < due.length; k++) {
            due(what + ": man(" + man + ", " + k + ")", x.man(man, k), due[k]);
        }
    }

    /** As many WEEKS as by the shortest RAILS (0 to itself). */
    private static void shortestWays() {
        StringBuilder line = new StringBuilder();
        for (char c = 'a'; c <= 'g'; c++) {
            line.append(Check.county("" + c, 0, 0, 0));
            if (c > 'a') {
                line.append(Check.rail("" + c, "" + (char) (c - 1), 9));
            }
        }
        NineTimes x = Check.of(line.toString());
        for (int from = 0; from < 7; from++) {
            for (int to = 0; to < 7; to++) {
                due("way(" + from + ", " + to + ")", x.way(from, to), 9 * Math.abs(from - to));
            }
        }
        for (int direct = 7; direct <= 9; direct++) {
            NineTimes y = Check.of(Check.county("a", 0, 0, 0) + Check.county("b", 0, 0, 0) + Check.county("c", 0, 0, 0)
                + Check.rail("a", "b", 4) + Check.rail("a", "c", direct) + Check.rail("b", "c", 4));
            due("by " + direct + " or by 4 and 4", y.way(0, 2), Math.min(8, direct));
            due("back", y.way(2, 0), Math.min(8, direct));
        }
    }

    /** WEEK 0 at first; each MAN FREE in his COUNTY, no name, purse 0; no LETTER under way. */
    private static void atFirst() {
        NineTimes x = Check.of(Check.county("a", 1, 5, 0) + Check.county("b", 1, 5, 0) + Check.man("m", "b", 7)
            + Check.man("n", "a", 9));
        due("WEEK", x.has(3), 0);
        isMan("at first", x, 0, 1, FREE, 0, 0, 0, 7);
        isMan("at first", x, 1, 0, FREE, 0, 0, 0, 9);
        for (int man = 0; man < 2; man++) {
            for (int county = 0; county < 2; county++) {
                due("no LETTER", x.known(man, county), NONE);
            }
        }
        due("nobody KNOWN", x.county(0, 3) + x.county(1, 3), 0);
    }

    /** KNOWN, if a LETTER that tells signs like his is there: all the signs, not some. */
    private static void knownBySignsLikeHis() {
        int[][] signs = {{5, 5, 1}, {5, 4, 0}, {5, 7, 0}, {0, 0, 1}, {0, 1, 0}, {63, 63, 1}, {63, 31, 0}, {32, 33, 0}};
        for (int[] s : signs) {
            NineTimes x = Check.of(Check.county("a", 9, 0, 0) + Check.county("b", 9, 0, 0) + Check.man("m", "b", s[0])
                + Check.man("n", "a", s[1]));
            x.tell(0, 0);
            due("KNOWN by " + s[0] + " one of " + s[1], x.county(0, 3), 1 + 2 * s[2]);
            due("not elsewhere", x.county(1, 3), 0);
            x.weeks(1);
            due("CAUGHT by " + s[0] + " one of " + s[1], x.man(1, 1), s[2] == 1 ? CAUGHT : TRAIN);
        }
    }

    private static void knownFromTheWeekItIsThere() {
        for (int in = 0; in <= 3; in++) {
            NineTimes x = alone(0, 0, "");
            Check.set(x, LETTER, in + 1);
            for (int week = 0; week < 6; week++) {
                due("KNOWN in WEEK " + week + " by a LETTER of " + in, x.county(0, 3), week >= in ? 1 : 0);
                due("known in WEEK " + week + " by a LETTER of " + in, x.known(0, 0), Math.max(0, in - week));
                due("CAUGHT ahead of WEEK " + week, x.man(0, 1), week > in ? CAUGHT : FREE);
                x.weeks(1);
            }
        }
    }

    /** One on the ROAD has a WEEK less, and is FREE there, if none is left (that is all in this WEEK). */
    private static void onTheRoad() {
        NineTimes x = alone(5, 7, "");
        Check.set(x, IS, ROAD, LEFT, 2, LETTER, 1);
        x.weeks(1);
        isMan("two WEEKS left", x, 0, 0, ROAD, 1, 0, 0);
        x.weeks(1);
        isMan("one WEEK left", x, 0, 0, FREE, 0, 0, 0);
        due("nothing KEPT", x.has(9), 0);
        x.weeks(1);
        isMan("he is KNOWN", x, 0, 0, CAUGHT, 0, 0, 0);
        NineTimes y = alone(5, 7, "");
        Check.set(y, IS, ROAD, LEFT, 99);
        y.weeks(98);
        isMan("99 WEEKS left", y, 0, 0, ROAD, 1, 0, 0);
        due("he is FREE", y.weeks(1), 0);
        due("he ENLISTS", y.weeks(1), 1);
    }

    /** One who is FREE is CAUGHT, if he is KNOWN there; else he ENLISTS. */
    private static void knownAheadOfEnlisting() {
        for (int quota = 0; quota < 2; quota++) {
            NineTimes x = alone(quota, 7, "");
            x.tell(0, 0);
            due("none ENLISTS", x.weeks(1), 0);
            isMan("he is CAUGHT", x, 0, 0, CAUGHT, 0, 0, 0);
            due("the quota stays", x.county(0, 0), quota);
        }
        // one in the TRAIN is KNOWN, but not CAUGHT there
        NineTimes y = alone(2, 7, "");
        y.weeks(1);
        y.tell(0, 0);
        y.weeks(1);
        isMan("he JUMPS", y, 0, 0, FREE, 0, 1, 7);
    }

    /** If the quota is not 0: it is 1 less. */
    private static void quotaOfOneAndNone() {
        NineTimes one = alone(1, 7, "");
        due("by a quota of 1", one.weeks(1), 1);
        isMan("by a quota of 1", one, 0, 0, TRAIN, 0, 1, 7);
        due("it is 1 less", one.county(0, 0), 0);
        NineTimes none = alone(0, 7, "");
        due("by a quota of 0", none.weeks(1), 0);
        isMan("by a quota of 0", none, 0, 0, FREE, 0, 0, 0);
        due("it is 0", none.county(0, 0), 0);
        NineTimes most = alone(20, 7, "");
        most.weeks(1);
        due("a quota of 20", most.county(0, 0), 19);
    }

    /** His purse more by what the COUNTY pays (9999 at most), a name more (99 at most). */
    private static void purseAndNamesAtMost() {
        int[][] rows = {{9000, 998, 9998}, {9000, 999, 9999}, {9001, 999, 9999}, {9998, 1, 9999}, {9999, 0, 9999},
            {9999, 1, 9999}, {9999, 999, 9999}, {0, 0, 0}, {0, 999, 999}};
        for (int[] row : rows) {
            NineTimes x = alone(1, row[1], "");
            Check.set(x, PURSE, row[0] / 256, PURSE + 1, row[0] % 256);
            due("later " + row[0] + " and " + row[1], x.later(0, 1, 3), row[2]);
            x.weeks(1);
            due("the purse of " + row[0] + " and " + row[1], x.man(0, 4), row[2]);
        }
        for (int names = 97; names <= 99; names++) {
            NineTimes x = alone(1, 1, "");
            Check.set(x, NAMES, names);
            due("names behind " + names, x.later(0, 1, 2), Math.min(99, names + 1));
            x.weeks(1);
            due("names behind " + names, x.man(0, 3), Math.min(99, names + 1));
        }
    }

    /** If the TEST of jumps holds (by that COUNTY; without it always), he JUMPS; else he is at the FRONT. */
    private static void jumpsByThatCounty() {
        String two = Check.county("a", 5, 7, 3) + Check.county("b", 5, 8, 4) + Check.man("m", "a", 1)
            + Check.man("n", "b", 2);
        String[] jumps = {"", "jumps all;", "jumps not all;", "jumps guard=3;", "jumps pays=8;", "jumps names=1;",
            "jumps purse=7;", "jumps week=1;", "jumps week=0;"};
        int[] jump = {3, 3, 0, 1, 2, 3, 1, 3, 0};
        for (int k = 0; k < jumps.length; k++) {
            NineTimes x = Check.of(two + jumps[k]);
            x.weeks(2);
            for (int man = 0; man < 2; man++) {
                boolean jumped = (jump[k] >> man & 1) == 1;
                due("man " + man + " by " + jumps[k], x.man(man, 1), jumped ? FREE : FRONT);
                due("his LETTER by " + jumps[k], x.known(man, man), jumped ? 1 : NONE);
            }
            due("at the FRONT", x.has(6), 2 - Integer.bitCount(jump[k]));
        }
    }

    /** There as many WEEKS later as the way and post together, to each COUNTY to which there is a way (there, too). */
    private static void lettersByWayAndPost() {
        for (int post = 0; post <= 9; post++) {
            NineTimes x = Check.of(Check.county("a", 1, 0, 0) + Check.county("b", 0, 0, 0) + Check.county("c", 0, 0, 0)
                + Check.county("d", 0, 0, 0) + Check.rail("a", "b", 1) + Check.rail("b", "c", 9) + Check.man("m", "a", 1)
                + "post " + post + ";");
            x.weeks(1);
            due("none ahead of the JUMP", x.known(0, 0), NONE);
            x.weeks(1);
            // sent in WEEK 1, asked in WEEK 2
            due("there, too, by post " + post, x.known(0, 0), Math.max(0, post - 1));
            due("by a way of 1", x.known(0, 1), post);
            due("by a way of 10", x.known(0, 2), 9 + post);
            due("without a way", x.known(0, 3), NONE);
        }
    }

    /** A second LETTER makes none later that is there first. */
    private static void earlierLetterStays() {
        NineTimes x = alone(9, 0, "post 9;");
        x.weeks(2);
        due("the first LETTER", x.known(0, 0), 8);
        x.weeks(2);
        due("behind the second one", x.known(0, 0), 6);
        NineTimes y = alone(9, 0, "post 3;");
        Check.set(y, LETTER, 200, IS, TRAIN);
        y.weeks(1);
        due("one that is there sooner", y.known(0, 0), 2);
    }

    /** One CAUGHT, at the FRONT does nothing more. */
    private static void nothingMoreDone() {
        for (int is : new int[] {CAUGHT, FRONT}) {
            NineTimes x = alone(5, 7, "");
            Check.set(x, IS, is, NAMES, 4, LETTER, 0);
            due("none ENLISTS", x.weeks(50), 0);
            due("nobody is taken", x.chance(50), 0);
            isMan("as he was", x, 0, 0, is, 0, 4, 0);
            due("nothing KEPT", x.has(9), 0);
            due("the quota stays", x.county(0, 0), 5);
            due("no LETTER", x.known(0, 0), NONE);
            due("the WEEK", x.has(3), 100);
        }
    }

    /** MEN do, by numbers, all by what is so then. */
    private static void byNumbersByWhatIsSoThen() {
        NineTimes x = Check.of(Check.county("a", 1, 7, 0) + Check.county("b", 9, 0, 0) + Check.rail("a", "b", 2)
            + Check.man("m", "a", 1) + Check.man("n", "a", 2));
        x.weeks(1);
        isMan("the first one ENLISTS", x, 0, 0, TRAIN, 0, 1, 7);
        isMan("the second one goes ON", x, 1, 1, ROAD, 2, 0, 0);
        // by post 0 the LETTER of the first one is there for the second one, not the other way round
        String like = Check.county("a", 9, 7, 0) + Check.man("m", "a", 1) + Check.man("n", "a", 1) + "post 0;";
        NineTimes y = Check.of(like);
        Check.set(y, 7, TRAIN);
        y.weeks(1);
        isMan("he JUMPS", y, 0, 0, FREE, 0, 0, 0);
        isMan("he is CAUGHT in this WEEK", y, 1, 0, CAUGHT, 0, 0, 0);
        NineTimes z = Check.of(like);
        Check.set(z, 14, TRAIN);
        z.weeks(1);
        isMan("he ENLISTS first", z, 0, 0, TRAIN, 0, 1, 7);
        isMan("he JUMPS", z, 1, 0, FREE, 0, 0, 0);
        // by post 1 it comes too late
        NineTimes w = Check.of(like + "post 1;");
        Check.set(w, 7, TRAIN);
        w.weeks(1);
        isMan("he ENLISTS", w, 1, 0, TRAIN, 0, 1, 7);
    }

    /** He goes ON to the COUNTY, another one, to which there is a way; if there is none, he is FREE where he is. */
    private static void goesOnToAnotherOne() {
        String two = Check.county("a", 0, 999, 0) + Check.county("b", 0, 1, 0) + Check.county("c", 0, 999, 0)
            + Check.man("m", "a", 1);
        NineTimes x = Check.of(two + Check.rail("b", "c", 1));
        x.weeks(1);
        isMan("no way", x, 0, 0, FREE, 0, 0, 0);
        NineTimes y = Check.of(two + Check.rail("b", "a", 9));
        y.weeks(1);
        isMan("one way", y, 0, 1, ROAD, 9, 0, 0);
        NineTimes z = Check.of(two + Check.rail("a", "b", 9) + Check.rail("b", "c", 8));
        z.weeks(1);
        isMan("by two RAILS", z, 0, 2, ROAD, 17, 0, 0);
        // by a quota that is 0, too, and by a SUM below 0
        NineTimes w = Check.of(two + Check.rail("a", "b", 9) + "likes 0-9999*9999;");
        w.weeks(1);
        isMan("by the least SUM", w, 0, 1, ROAD, 9, 0, 0);
    }

    /** Of which the SUM of likes is most (without it: what it pays), of like ones the first. */
    private static void ofLikeOnesTheFirst() {
        int[][] rows = {{5, 5, 5, 1}, {5, 6, 6, 2}, {5, 6, 7, 3}, {6, 5, 6, 1}, {5, 7, 6, 2}, {0, 0, 0, 1}, {0, 0, 1, 3}};
        for (int[] row : rows) {
            for (String likes : new String[] {"", "likes pays;", "likes pays-1000;", "likes 0-(1000-pays);"}) {
                NineTimes x = Check.of(Check.county("a", 0, 9, 0) + Check.county("b", 0, row[0], 0)
                    + Check.county("c", 0, row[1], 0) + Check.county("d", 0, row[2], 0) + Check.rail("a", "b", 9)
                    + Check.rail("a", "c", 5) + Check.rail("a", "d", 1) + Check.man("m", "a", 1) + likes);
                x.weeks(1);
                due("he goes by " + likes + row[0] + " " + row[1] + " " + row[2], x.man(0, 0), row[3]);
            }
        }
        // above 10 to the 6 they are alike
        NineTimes y = Check.of(Check.county("a", 0, 0, 0) + Check.county("b", 0, 500, 0) + Check.county("c", 0, 501, 0)
            + Check.rail("a", "b", 1) + Check.rail("a", "c", 1) + Check.man("m", "a", 1) + "likes pays*2000;");
        y.weeks(1);
        due("of like ones", y.man(0, 0), 1);
    }

    /** Of that COUNTY, of the MAN, of the WEEK, by what is so then. */
    private static void goesOnByWhatIsSoThen() {
        String three = Check.county("a", 1, 7, 5) + Check.county("b", 1, 0, 3) + Check.county("c", 4, 9, 2)
            + Check.rail("a", "b", 2) + Check.rail("b", "c", 1) + Check.man("m", "a", 1) + Check.man("n", "b", 2);
        String[] other = {"quota=4", "guard=2", "pays=9", "far=3"};
        for (String of : other) {
            // c where it holds, else b
            NineTimes x = Check.of(three + "likes if(" + of + ",2,1);");
            x.weeks(2);
            isMan("he goes by " + of, x, 0, 2, ROAD, 3, 1, 7);
        }
        String[] likes = {"quota=0", "guard=3", "pays=0", "far=2", "names=0", "purse=0", "week=0", "quota=1", "far=3",
            "names=1", "purse=7", "week=1"};
        int[] due = {1, 1, 1, 1, 2, 2, 2, 2, 2, 1, 1, 1};
        for (int k = 0; k < likes.length; k++) {
            // b where it holds, else c; in WEEK 1 the quota of b is 0, he has had a name and got 7
            NineTimes x = Check.of(three + "likes if(guard=3,if(" + likes[k] + ",2,0),1);");
            x.weeks(2);
            isMan("he goes by " + likes[k], x, 0, due[k], ROAD, due[k] + 1, 1, 7);
        }
    }

    private static long next(long seed) {
        return (1103515245L * seed + 12345) % 2147483648L;
    }

    private static long drawn(long seed) {
        return next(seed) / 64 % 100;
    }

    /** The least seed by which the next DRAW of 100 is that. */
    private static int seedFor(long draw) {
        int seed = 0;
        while (drawn(seed) != draw) {
            seed++;
        }
        return seed;
    }

    /** A DRAW of 100: below 10 times the guard of the COUNTY he is at the FRONT. */
    private static void drawAgainstGuard() {
        for (int guard = 0; guard <= 9; guard++) {
            for (int draw : new int[] {0, 10 * guard - 1, 10 * guard, 99}) {
                if (draw < 0) {
                    continue;
                }
                NineTimes x = Check.of(Check.county("a", 5, 7, guard) + Check.man("m", "a", 1));
                x.weeks(1);
                int seed = seedFor(draw);
                x.seed(seed);
                boolean taken = draw < 10 * guard;
                due("DRAW " + draw + " by guard " + guard, x.chance(1), taken ? 1 : 0);
                due("what he is", x.man(0, 1), taken ? FRONT : FREE);
                due("the seed", x.has(12), next(seed));
                due("what is KEPT", x.kept(1, 3), taken ? 4 : 2);
                due("WEEK of it", x.kept(1, 0), 1);
                due("one thing", x.has(9), 2);
            }
        }
    }

    /** For each MAN in a TRAIN, by numbers; of that COUNTY the guard. */
    private static void drawsForMenInTrainsAlone() {
        for (int is = FREE; is <= FRONT; is++) {
            NineTimes x = alone(0, 0, "");
            Check.set(x, IS, is, LEFT, is == ROAD ? 9 : 0);
            x.seed(5);
            due("none taken", x.chance(1), 0);
            due("the seed by one who is " + is, x.has(12), is == TRAIN ? next(5) : 5);
        }
        // the first DRAW is of the first man in a TRAIN, the second one of the next
        int first = seedFor(49);
        while (drawn(next(first)) < 50 || drawn(first) != 49) {
            first++;
        }
        int second = seedFor(50);
        while (drawn(next(second)) != 49 || drawn(second) < 50) {
            second++;
        }
        for (int k = 0; k < 2; k++) {
            NineTimes x = Check.of(Check.county("a", 9, 0, 5) + Check.county("b", 9, 0, 9) + Check.man("k", "a", 1)
                + Check.man("l", "b", 2) + Check.man("m", "a", 3));
            x.weeks(1);
            // l is at the FRONT: no DRAW of his
            Check.set(x, 10 + 8 + 1, FRONT);
            x.seed(k == 0 ? first : second);
            due("one is taken", x.chance(1), 1);
            due("the first one", x.man(0, 1), k == 0 ? FRONT : FREE);
            due("the third one", x.man(2, 1), k == 0 ? FREE : FRONT);
            due("two DRAWS", x.has(12), next(next(k == 0 ? first : second)));
        }
    }

    /** A WEEK begins with the DRAWS: one who ENLISTS in it has none, one who is taken sends no LETTER. */
    private static void drawsAheadOfTheWeek() {
        NineTimes x = Check.of(Check.county("a", 9, 0, 9) + Check.man("m", "a", 1));
        int seed = seedFor(89);
        x.seed(seed);
        due("WEEK 0", x.chance(1), 0);
        due("he is in the TRAIN", x.man(0, 1), TRAIN);
        due("no DRAW", x.has(12), seed);
        due("WEEK 1", x.chance(1), 1);
        due("at the FRONT", x.man(0, 1), FRONT);
        due("no LETTER", x.known(0, 0), NONE);
        due("a DRAW", x.has(12), next(seed));
        // the DRAWS come ahead of what the MEN of lower numbers do
        NineTimes y = Check.of(Check.county("a", 9, 0, 9) + Check.man("m", "a", 1) + Check.man("n", "a", 2));
        Check.set(y, 14, TRAIN);
        y.seed(seed);
        y.chance(1);
        due("first to the FRONT", y.kept(0, 1) * 10 + y.kept(0, 3), 14);
        due("then he ENLISTS", y.kept(1, 1) * 10 + y.kept(1, 3), 1);
    }

    /** x becomes (1103515245 x + 12345) mod 2 to the 31; floor(x / 64) mod m. */
    private static void drawWrapsAround() {
        int[] seeds = {0, 1, 2, 1073741823, 1073741824, 2147483646, 2147483647};
        // worked out by whole numbers of any length
        int[] due = {12345, 1103527590, 59559187, 4, 5, 6, 7};
        for (int k = 3; k < 7; k++) {
            due[k] = java.math.BigInteger.valueOf(1103515245).multiply(java.math.BigInteger.valueOf(seeds[k]))
                .add(java.math.BigInteger.valueOf(12345)).mod(java.math.BigInteger.ONE.shiftLeft(31)).intValue();
        }
        for (int k = 0; k < seeds.length; k++) {
            NineTimes x = Check.of(Check.county("a", 9, 0, 5) + Check.man("m", "a", 1));
            x.weeks(1);
            x.seed(seeds[k]);
            boolean taken = due[k] / 64 % 100 < 50;
            due("a DRAW by " + seeds[k], x.chance(1), taken ? 1 : 0);
            due("the seed behind " + seeds[k], x.has(12), due[k]);
        }
    }

    private static void isKept(NineTimes x, int k, int week, int man, int county, int what) {
        due("WEEK of kept " + k, x.kept(k, 0), week);
        due("MAN of kept " + k, x.kept(k, 1), man);
        due("COUNTY of kept " + k, x.kept(k, 2), county);
        due("what of kept " + k, x.kept(k, 3), what);
    }

    /** KEPT is each time one ENLISTS, JUMPS, is CAUGHT, comes to the FRONT: WEEK (ahead of its end), MAN, COUNTY. */
    private static void keptFourKinds() {
        NineTimes x = Check.of(Check.county("a", 0, 0, 0) + Check.county("b", 2, 0, 0) + Check.rail("a", "b", 1)
            + Check.man("m", "a", 1) + Check.man("n", "b", 2) + "jumps week<4;post 0;");
        // m: ON in 0, FREE in 1, ENLISTS in 2, JUMPS in 3; n: ENLISTS in 0, JUMPS in 1, back in 4, CAUGHT in a in 3
        x.weeks(5);
        due("how many", x.has(9), 5);
        isKept(x, 0, 0, 1, 1, 1);
        isKept(x, 1, 1, 1, 1, 2);
        isKept(x, 2, 2, 0, 1, 1);
        isKept(x, 3, 3, 0, 1, 2);
        isKept(x, 4, 3, 1, 0, 3);
        NineTimes y = Check.of(Check.county("a", 0, 0, 0) + Check.county("b", 2, 0, 0) + Check.man("m", "a", 1)
            + Check.man("n", "b", 2) + "jumps week<1;");
        y.weeks(2);
        due("how many", y.has(9), 2);
        isKept(y, 1, 1, 1, 1, 4);
    }

    /** The largest WEEK, MAN, COUNTY and kind of all. */
    private static void keptOfTheLastWeek() {
        StringBuilder text = new StringBuilder();
        for (int k = 0; k < 7; k++) {
            text.append(Check.county("c" + (char) ('a' + k), 1, 0, 9));
        }
        for (int k = 0; k < 6; k++) {
            text.append(Check.man("m" + (char) ('a' + k), "c" + (char) (k == 0 ? 'a' : 'b' + k), k));
        }
        NineTimes x = Check.of(text + "jumps not all;");
        Check.set(x, 0, 997 / 256, 1, 997 % 256);
        x.weeks(1);
        x.weeks(1);
        due("twelve", x.has(9), 12);
        for (int k = 0; k < 12; k++) {
            int man = k % 6;
            isKept(x, k, 997 + k / 6, man, man == 0 ? 0 : man + 1, k < 6 ? 1 : 4);
        }
    }

    /** The last 60 are told: five men do eleven things each, the sixth one comes seven WEEKS later. */
    private static void keptLastSixty() {
        StringBuilder text = new StringBuilder(Check.county("a", 20, 0, 0) + Check.county("b", 20, 0, 0) + "post 9;");
        for (int k = 0; k < 6; k++) {
            text.append(Check.man("m" + (char) ('a' + k), k < 3 ? "a" : "b", k));
        }
        NineTimes x = Check.of(text.toString());
        int sixth = 2 + 8 + 5 * 8;
        Check.set(x, sixth + 1, ROAD, sixth + 2, 7);
        x.weeks(11);
        due("59", x.has(9), 59);
        isKept(x, 0, 0, 0, 0, 1);
        isKept(x, 58, 10, 5, 1, 2);
        due("none such", x.kept(59, 0), NONE);
        x.weeks(1);
        due("60", x.has(9), 60);
        isKept(x, 0, 0, 0, 0, 1);
        isKept(x, 59, 11, 5, 1, 1);
        due("none such", x.kept(60, 0), NONE);
        x.weeks(1);
        due("60 of 61", x.has(9), 60);
        isKept(x, 0, 0, 1, 0, 1);
        isKept(x, 58, 11, 5, 1, 1);
        isKept(x, 59, 12, 5, 1, 2);
        due("none such", x.kept(60, 0), NONE);
        x.weeks(50);
        due("60 of 66", x.has(9), 60);
        isKept(x, 0, 1, 1, 0, 2);
        isKept(x, 59, 17, 5, 1, 3);
        // what went out of the row comes back
        x.undo();
        isKept(x, 0, 0, 1, 0, 1);
        x.undo();
        isKept(x, 0, 0, 0, 0, 1);
        due("60", x.has(9), 60);
        x.undo();
        due("59", x.has(9), 59);
    }

    /** The last 20 can be undone. */
    private static void lastTwentyUndone() {
        for (int acts = 19; acts <= 21; acts++) {
            NineTimes x = alone(9, 0, "");
            for (int k = 1; k <= acts; k++) {
                due("an ACT", x.pay(0, k) ? 1 : 0, 1);
                due("ACTS", x.has(11), Math.min(20, k));
            }
            for (int k = acts - 1; k >= Math.max(0, acts - 20); k--) {
                due("undo", x.undo() ? 1 : 0, 1);
                due("it paid", x.county(0, 1), k);
            }
            due("one undo more", x.undo() ? 1 : 0, 0);
            due("it pays", x.county(0, 1), Math.max(0, acts - 20));
            due("no ACTS", x.has(11), 0);
        }
        // a refused ACT at 20 pushes none out
        NineTimes y = alone(9, 0, "");
        for (int k = 1; k <= 20; k++) {
            y.pay(0, k);
        }
        boolean any = y.weeks(0) >= 0 || y.chance(101) >= 0 || y.pay(0, 20) || y.guard(0, 0) || y.tell(0, 1);
        due("all refused", any ? 1 : 0, 0);
        for (int k = 19; k >= 0; k--) {
            due("undo", y.undo() ? 1 : 0, 1);
            due("it paid", y.county(0, 1), k);
        }
        due("one undo more", y.undo() ? 1 : 0, 0);
    }
}
