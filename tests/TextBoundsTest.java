/** The bounds that part I of 'Terms' names: each sentence by the last that is taken and the first that is refused. */
public final class TextBoundsTest {
    private static final String A = Check.county("a", 1, 2, 3);
    private static final String AB = A + Check.county("b", 1, 2, 3);
    private static final String OWN_WORDS = "county quota pays guard rail to weeks man at signs jumps likes post names purse "
        + "week far if or and not all min max";

    private TextBoundsTest() {
    }

    public static void main(String[] args) {
        eightyStatements();
        numbersOfStatements();
        howManyOfAKind();
        railsOfUnlikeCounties();
        lastPostCounts();
        quotaAndFarInLikesAlone();
        choice();
        fromTheLeftOn();
        division();
        limitsOfResults();
        lessAndMore();
        signsOfTests();
        lengthOfNames();
        lettersOfNames();
        unlikeNames();
        namesAheadOfWhereAsked();
        lengthOfNumbers();
        digits();
        blanks();
        sideBySide();
        ownWords();
        signsBetween();
        endsTooSoon();
        firstAlongTheText();
        eighthOpen();
        notUntilItsFactEnds();
        oneTooMany();
        Check.finish();
    }

    private static void good(String text) {
        Check.due("war of " + text, Check.war(new NineTimes(), text) >= 0, true);
    }

    private static void fault(int kind, String marked) {
        FaultsTest.fault(kind, marked);
    }

    private static void due(String what, long got, long want) {
        Check.due(what, got, want);
    }

    /** A WAR is a text: { STATEMENT ; } (80 at most). */
    private static void eightyStatements() {
        FaultsTest.good("", 0);
        FaultsTest.good("post 1;", 1);
        FaultsTest.good("post 1;".repeat(79), 79);
        FaultsTest.good("post 1;".repeat(80), 80);
        FaultsTest.good("\n" + "post 1;".repeat(80) + " \n ", 80);
        fault(6, "post 1;".repeat(80) + "^post 1;");
        fault(6, "post 1;".repeat(80) + "\n ^post 1;" + "post 1;".repeat(20));
    }

    /** A NUMBER between a text and another one: taken from the least on to the most. */
    private static void number(String ahead, int least, int most, String behind) {
        good(ahead + least + behind);
        good(ahead + most + behind);
        good(ahead + (10000 + most + "").substring(1) + behind);
        fault(4, ahead + "^" + (most + 1) + behind);
        fault(4, ahead + "^9999" + behind);
        fault(1, ahead + "^-1" + behind);
        if (least > 0) {
            fault(4, ahead + "^" + (least - 1) + behind);
            fault(4, ahead + "^0000" + behind);
        }
    }

    /** N (0 .. 20; 0 .. 999; 0 .. 9) .. 1 .. 9 .. 0 .. 63 .. 0 .. 9. */
    private static void numbersOfStatements() {
        number("county a quota ", 0, 20, " pays 0 guard 0;");
        number("county a quota 0 pays ", 0, 999, " guard 0;");
        number("county a quota 0 pays 0 guard ", 0, 9, ";");
        number(AB + "rail a to b weeks ", 1, 9, ";");
        number(A + "man m at a signs ", 0, 63, ";");
        number("post ", 0, 9, ";");
        NineTimes most = Check.of(Check.county("a", 20, 999, 9) + Check.county("b", 0, 0, 0) + Check.rail("a", "b", 9)
            + Check.man("m", "b", 63) + Check.man("n", "a", 0));
        int[] due = {20, 999, 9, 0, 0, 0, 9, 63, 0};
        int[] got = {most.county(0, 0), most.county(0, 1), most.county(0, 2), most.county(1, 0), most.county(1, 1),
            most.county(1, 2), most.way(0, 1), most.man(0, 5), most.man(1, 5)};
        for (int k = 0; k < due.length; k++) {
            due("the bound " + k, got[k], due[k]);
        }
    }

    private static String counties(int n) {
        StringBuilder text = new StringBuilder();
        for (int k = 0; k < n; k++) {
            text.append(Check.county("c" + (char) ('a' + k), 0, 0, 0));
        }
        return text.toString();
    }

    private static String men(int n) {
        StringBuilder text = new StringBuilder();
        for (int k = 0; k < n; k++) {
            text.append(Check.man("m" + (char) ('a' + k), "ca", 0));
        }
        return text.toString();
    }

    private static String rails(int n) {
        StringBuilder text = new StringBuilder();
        int told = 0;
        for (int k = 0; k < 7; k++) {
            for (int j = k + 1; j < 7 && told < n; j++) {
                text.append(Check.rail("c" + (char) ('a' + k), "c" + (char) ('a' + j), 1));
                told++;
            }
        }
        return text.toString();
    }

    /** 7 COUNTIES, 12 RAILS, 6 MEN, one jumps, one likes. */
    private static void howManyOfAKind() {
        due("7 COUNTIES", Check.of(counties(7)).has(0), 7);
        fault(6, counties(7) + "^" + Check.county("x", 0, 0, 0));
        due("12 RAILS", Check.of(counties(7) + rails(12)).has(1), 12);
        fault(6, counties(7) + rails(12) + "^" + Check.rail("cf", "cg", 1));
        due("6 MEN", Check.of(counties(7) + men(6)).has(2), 6);
        fault(6, counties(7) + men(6) + "^" + Check.man("x", "ca", 1));
        FaultsTest.good("jumps all;likes 1;", 2);
        fault(6, "jumps all;likes 1;^jumps all;");
        fault(6, "jumps all;likes 1;^likes 1;");
        FaultsTest.good(counties(7) + rails(12) + men(6) + "jumps all;likes 1;post 1;post 2;", 29);
    }

    /** Two unlike COUNTIES, not told in either order already. */
    private static void railsOfUnlikeCounties() {
        fault(3, AB + "rail a to ^a weeks 1;");
        fault(3, AB + "rail a to b weeks 1;rail a to ^b weeks 1;");
        fault(3, AB + "rail a to b weeks 1;rail b to ^a weeks 2;");
        String abc = AB + Check.county("c", 0, 0, 0);
        due("three unlike RAILS", Check.of(abc + "rail a to b weeks 1;rail c to a weeks 1;rail b to c weeks 1;").has(1), 3);
    }

    /** The last one counts (2 without): the LETTER of WEEK 1 is there by WEEK 1 and post. */
    private static void lastPostCounts() {
        String[] posts = {"", "post 0;", "post 2;", "post 9;", "post 0;post 9;", "post 9;post 0;", "post 9;post 5;post 3;"};
        int[] known = {1, 0, 1, 8, 8, 0, 2};
        for (int k = 0; k < posts.length; k++) {
            NineTimes x = Check.of(Check.county("a", 1, 0, 0) + posts[k] + Check.man("m", "a", 0));
            x.weeks(2);
            due("known by " + posts[k], x.known(0, 0), known[k]);
        }
    }

    /** In likes: quota; far. */
    private static void quotaAndFarInLikesAlone() {
        good("likes quota;");
        good("likes far;");
        good("likes if(quota>1 and far<2,far,quota)+(quota)*min(far,quota);");
        fault(1, "jumps ^quota>1;");
        fault(1, "jumps ^far>1;");
        fault(1, "jumps 1>^quota;");
        fault(1, "jumps 1>(^far);");
        fault(1, "jumps if(all,^quota,1)>1;");
        fault(1, "jumps if(^far>1,1,1)>1;");
        fault(1, "likes 1;jumps ^quota>1;");
        good("jumps guard+pays+names+purse+week>1;");
        good("likes guard+pays+names+purse+week;");
    }

    private static void holds(String... tests) {
        for (String test : tests) {
            Check.due("it holds: " + test, FaultsTest.holds(test), true);
            Check.due("it doesn't hold: not " + test, FaultsTest.holds("not " + test), false);
        }
    }

    private static void holdsNot(String... tests) {
        for (String test : tests) {
            Check.due("it doesn't hold: " + test, FaultsTest.holds(test), false);
        }
    }

    /** The first SUM where the TEST holds, else the second one. */
    private static void choice() {
        holds("if(all,5,6)=5", "if(not all,5,6)=6", "if(0=0,0,6)=0", "if(0=1,5,0)=0", "if(1<2,if(2<1,3,4),5)=4");
    }

    /** All from the left on. */
    private static void fromTheLeftOn() {
        holds("9-4-3=2", "9-4+3=8", "24/4/3=2", "24/4*3=18", "24%9/2=3", "24*3%7=2", "7%4*2=6", "2+3*4=14", "2*3+4=10",
            "9-2*3=3", "9-(2*3)=3", "(9-2)*3=21", "9-(4-3)=8", "all or all and not all");
        Check.due("not ahead of or", FaultsTest.holds("not all or all"), true);
        holdsNot("[all or all] and not all", "not [all or all]", "not all and not all");
    }

    /** / gives the greatest whole number not above, % what is left; by 0 both give 0. */
    private static void division() {
        holds("7/2=3", "6/2=3", "1/2=0", "(0-1)/2=0-1", "(0-7)/2=0-4", "(0-6)/2=0-3", "7/(0-2)=0-4", "6/(0-2)=0-3",
            "(0-7)/(0-2)=3", "7/1=7", "0/7=0", "7%2=1", "6%2=0", "(0-1)%2=1", "(0-7)%4=1", "7%(0-4)=0-1", "(0-7)%(0-4)=0-3",
            "(0-8)%4=0", "3%7=3", "7/0=0", "(0-7)/0=0", "0/0=0", "7%0=0", "(0-7)%0=0", "0%0=0", "7/(1-1)=0", "7%(1-1)=0");
    }

    /** Each result above 10 to the 6 is that, below -10 to the 6 likewise. */
    private static void limitsOfResults() {
        holds("1000*1000-1=999*1001", "999*1001+1=1000*1000", "999*1001+2=1000*1000", "999*1001+2-1=999*1001",
            "1000*1000+1-1=999*1001", "1000*1001-1=999*1001", "9999*9999*9999-1=999*1001", "1000*1000>999*1001",
            "0-1000*1000+1=0-999*1001", "0-999*1001-1=0-1000*1000", "0-999*1001-2=0-1000*1000",
            "0-999*1001-2+1=0-999*1001", "(0-1000)*1001+1=0-999*1001", "0-9999*9999+1=0-999*1001",
            "0-1000*1000-9999+1=0-999*1001", "0-1000*1000<0-999*1001", "(0-9999)*9999*(0-9999)=1000*1000");
    }

    /** min ( SUM , SUM ) ; max ( SUM , SUM ). */
    private static void lessAndMore() {
        holds("min(3,4)=3", "min(4,3)=3", "min(3,3)=3", "max(3,4)=4", "max(4,3)=4", "max(3,3)=3", "min(0-3,0-4)=0-4",
            "max(0-3,0-4)=0-3", "min(0,0-1)<max(0,0-1)");
    }

    private static void signsOfTests() {
        holds("1<2", "0-2<0-1", "2>1", "2=2", "0=0-0");
        holdsNot("2<2", "3<2", "2>2", "1>2", "1=2", "2=1");
        Check.due("all", FaultsTest.holds("all"), true);
        Check.due("not all", FaultsTest.holds("not all"), false);
        Check.due("not not all", FaultsTest.holds("not not all"), true);
    }

    /** NAMES: 1 to 6 letters. */
    private static void lengthOfNames() {
        String[] names = {"x", "xy", "xyz", "xyzx", "xyzxy", "xyzxyz"};
        for (String name : names) {
            NineTimes x = Check.of(Check.county(name, 0, 0, 0) + Check.man("m", name, 0));
            due("the last letter of " + name, x.letter(0, 0, name.length() - 1), name.charAt(name.length() - 1) - 'a' + 1);
            due("behind " + name, x.letter(0, 0, name.length()), name.length() < 6 ? 0 : -1);
        }
        fault(1, "county xyzxyz^x quota 0");
        fault(1, A + "man xyzxyz^xyz at a");
        fault(1, A + "man m at xyzxyz^x signs 0;");
        fault(1, A + "rail a to xyzxyz^x");
        // whatever may stand there
        fault(1, "xyzxyz^x");
        fault(1, "county^county a");
        fault(1, "county a xyzxyz^x");
        fault(1, "county a quota xyzxyz^x");
        fault(1, "post 1 xyzxyz^x");
        fault(1, "jumps xyzxyz^x");
        fault(1, "likes 1 xyzxyz^x");
        fault(1, "likes guards^s");
    }

    /** Letters are a .. z: of all bytes where a NAME must be. */
    private static void lettersOfNames() {
        for (char c = 0; c < 256; c++) {
            NineTimes x = new NineTimes();
            boolean letter = c >= 'a' && c <= 'z';
            due("a NAME of byte " + (int) c, Check.war(x, "county " + c + " quota 1 pays 1 guard 1;"), letter ? 1 : -1);
            due("its FAULT", x.fault(0), letter ? 0 : 1);
            due("its place", x.fault(1), letter ? -1 : c == 10 || c == 32 ? 9 : 7);
            due("its letter", x.letter(0, 0, 0), letter ? c - 'a' + 1 : -1);
        }
    }

    /** Unlike ones (of all sorts). */
    private static void unlikeNames() {
        fault(2, A + "county ^a quota 1 pays 1 guard 1;");
        fault(2, A + "man ^a at a signs 0;");
        fault(2, A + "man m at a signs 0;man ^m at a signs 0;");
        fault(2, A + "man m at a signs 0;county ^m quota 1 pays 1 guard 1;");
        good(A + Check.county("aa", 0, 0, 0) + Check.man("aaa", "aa", 0) + Check.man("aaaaaa", "a", 0));
        good(Check.county("ab", 0, 0, 0) + Check.county("ba", 0, 0, 0));
    }

    /** Told ahead of where they are asked. */
    private static void namesAheadOfWhereAsked() {
        fault(3, "man m at ^a signs 0;" + A);
        fault(3, A + "rail a to ^b weeks 1;" + Check.county("b", 0, 0, 0));
        fault(3, "rail ^a to b weeks 1;" + AB);
        fault(3, A + "man m at ^m signs 0;");
        fault(3, A + "man m at a signs 0;man n at ^m signs 0;");
        fault(3, A + "man m at a signs 0;rail ^m to a weeks 1;");
        fault(3, A + "man m at a signs 0;rail a to ^m weeks 1;");
        good(A + "man m at a signs 0;");
    }

    /** NUMBERS: 1 to 4 digits. */
    private static void lengthOfNumbers() {
        good("likes 0;");
        good("likes 9999;");
        good("likes 0000;");
        Check.due("9999", FaultsTest.holds("9999=9998+1"), true);
        Check.due("0012", FaultsTest.holds("0012=12"), true);
        fault(1, "likes 1000^0;");
        fault(1, "likes 0000^0;");
        fault(1, "post 0000^1;");
        fault(1, "county a quota 0000^01 pays");
        // whatever may stand there
        fault(1, "1234^5");
        fault(1, "county 1234^5");
        fault(1, A + "man m at 1234^5");
        fault(1, A + "rail 1234^5");
        fault(1, A + "rail a to 1234^5");
        fault(1, "post 1 1234^5");
        fault(1, "likes guard 1234^5");
        fault(4, "post ^1234;");
    }

    /** Of all bytes where a NUMBER must be, and behind its first digit. */
    private static void digits() {
        for (char c = 0; c < 256; c++) {
            boolean digit = c >= '0' && c <= '9';
            boolean blank = c == 10 || c == 32;
            NineTimes x = new NineTimes();
            due("post of byte " + (int) c, Check.war(x, "post " + c + ";"), digit ? 1 : -1);
            due("its place", x.fault(1), digit ? -1 : blank ? 6 : 5);
            due("its FAULT", x.fault(0), digit ? 0 : 1);
            NineTimes y = new NineTimes();
            due("byte " + (int) c + " behind 1", Check.war(y, "post 1" + c), c == ';' ? 1 : -1);
            due("its place", y.fault(1), c == ';' ? -1 : digit ? 5 : blank ? 7 : 6);
            due("its FAULT", y.fault(0), c == ';' ? 0 : digit ? 4 : 1);
        }
    }

    /** Blanks (10, 32) are where one likes. */
    private static void blanks() {
        for (char c = 0; c < 256; c++) {
            boolean blank = c == 10 || c == 32;
            NineTimes x = new NineTimes();
            due("byte " + (int) c + " as a blank", Check.war(x, "post" + c + "1;"), blank ? 1 : -1);
            due("its place", x.fault(1), blank ? -1 : c >= 'a' && c <= 'z' ? 0 : 4);
            due("its FAULT", x.fault(0), blank ? 0 : 1);
        }
        FaultsTest.good(" ".repeat(1600), 0);
        FaultsTest.good("\n".repeat(1593) + "post 1;", 1);
        FaultsTest.good("post" + " ".repeat(1594) + "1;", 1);
        String text = "county a quota 1 pays 2 guard 3 ; likes ( guard + 2 ) * min ( 3 , 4 ) ; jumps [ not all ] ; ";
        FaultsTest.good(text, 3);
        FaultsTest.good(text.replace(' ', '\n'), 3);
        FaultsTest.good(text.replace(" ", " \n\n "), 3);
        FaultsTest.good(" \n" + text.replaceAll(" ([^a-z0-9]) ?", "$1"), 3);
    }

    /** Words and numbers side by side need one. */
    private static void sideBySide() {
        fault(1, "post^1;");
        fault(1, "county a quota^1 pays 2 guard 3;");
        fault(1, "county a quota 1^pays 2 guard 3;");
        fault(1, "county a quota 1 pays 2^guard 3;");
        fault(1, "county a^1 quota");
        fault(1, AB + "rail a to b weeks^1;");
        fault(1, A + "man m at a signs^1;");
        fault(1, A + "county^1");
        fault(1, A + "man^1");
        fault(1, A + "man m at^1");
        fault(1, A + "rail^1");
        fault(1, A + "rail a to^1");
        fault(1, "jumps 1=1^or all;");
        fault(1, "jumps 1=1^and all;");
        fault(1, "jumps not^1=1;");
        fault(1, "jumps all or^1=1;");
        fault(1, "jumps all and^1=1;");
        good("jumps not(1)=1 or[all]and(1)=1;");
        good("jumps not[all]or not[all];likes(1);");
    }

    /** OWN WORDS, which no NAME is: an OWN WORD where a NAME must be. */
    private static void ownWords() {
        String[] words = OWN_WORDS.split(" ");
        due("OWN WORDS", words.length, 24);
        for (String word : words) {
            fault(1, "county ^" + word + " quota 1 pays 1 guard 1;");
            fault(1, A + "man ^" + word + " at a signs 0;");
            fault(1, A + "man m at ^" + word + " signs 0;");
            fault(1, A + "rail ^" + word + " to a weeks 1;");
            fault(1, A + "rail a to ^" + word + " weeks 1;");
            String shorter = word.substring(0, word.length() - 1);
            String other = shorter + "z";
            good(Check.county(other, 0, 0, 0) + Check.man("m", other, 0));
            if (!" week ".contains(" " + shorter + " ")) {
                good(Check.county(shorter, 0, 0, 0) + Check.man("m", shorter, 0));
            }
        }
    }

    /** 1 the first byte with which no WAR goes on: of all bytes between two SUMS. */
    private static void signsBetween() {
        for (char c = 0; c < 256; c++) {
            boolean digit = c >= '0' && c <= '9';
            boolean blank = c == 10 || c == 32;
            boolean joins = "+-*/%".indexOf(c) >= 0;
            boolean compares = "<>=".indexOf(c) >= 0;
            NineTimes x = new NineTimes();
            due("jumps with byte " + (int) c, Check.war(x, "jumps 1" + c + "2;"), compares ? 1 : -1);
            due("its place", x.fault(1), compares ? -1 : joins || digit ? 9 : blank ? 8 : 7);
            NineTimes y = new NineTimes();
            due("likes with byte " + (int) c, Check.war(y, "likes 1" + c + "2;"), joins || digit ? 1 : -1);
            due("its place", y.fault(1), joins || digit ? -1 : c == ';' ? 8 : blank ? 8 : 7);
        }
    }

    /** At the text's length, if it ends too soon. */
    private static void endsTooSoon() {
        String text = "county a quota 1 pays 2 guard 3 ; county b quota 1 pays 2 guard 3 ; rail a to b weeks 1 ; "
            + "man m at a signs 3 ; jumps not [ all ] and 1 < 2 or if ( all , 1 , 2 ) = 3 ; "
            + "likes min ( 1 + 2 , max ( 3 , 4 ) ) * quota ; post 3 ; ";
        String[] tokens = text.split(" ");
        StringBuilder so = new StringBuilder();
        int statements = 0;
        for (String token : tokens) {
            so.append(token);
            statements += token.equals(";") ? 1 : 0;
            if (token.equals(";")) {
                FaultsTest.good(so.toString(), statements);
                FaultsTest.good(so + "\n ", statements);
            } else {
                fault(1, so + "^");
                fault(1, so + " \n^");
            }
            so.append(' ');
        }
        // a word that ends too soon is another word
        fault(1, "^count");
        fault(1, "county a ^quot");
    }

    /** FAULTS, the first along the text. */
    private static void firstAlongTheText() {
        fault(4, "county a quota ^21 pays 1000 guard 10;");
        fault(4, "county a quota ^21pays");
        fault(1, "county ^quota quota 21 pays 1 guard 1;");
        fault(2, A + "county ^a quota 21 pays 1 guard 1;");
        fault(2, A + "county ^a?");
        fault(3, A + "man m at ^b signs 64;");
        fault(3, A + "man m at ^b12345");
        fault(4, A + "man m at a signs ^64;county a");
        fault(4, A + "man m at a signs ^64county");
        fault(6, "likes 1;^likes (");
        fault(6, "likes 1;^likes1");
        fault(1, "likes ^x;likes 1;");
        fault(5, "likes (((((((^((x");
        fault(1, "likes (((((((^x((");
        fault(2, A + "man m at a signs 0;man ^m at b signs 64;");
        fault(3, AB + "rail ^c to a weeks 10;");
        fault(4, AB + "rail a to b weeks ^10;rail a to b weeks 1;");
    }

    /** 5 the 8th ( [ not that is open at once, at it: seven of each kind, then one of each kind. */
    private static void eighthOpen() {
        String[] kinds = {"^(", "min^(", "max^(", "if^(", "^[", "^not "};
        for (int first = 0; first < kinds.length; first++) {
            boolean testBehind = first >= 3;
            String six = "jumps " + kinds[first].replace("^", "").repeat(6);
            String seven = six + kinds[first].replace("^", "");
            // seven are taken: then the text ends too soon
            fault(1, seven + "^");
            for (int last = 0; last < (testBehind ? kinds.length : 4); last++) {
                fault(1, six + kinds[last].replace("^", "") + "^");
                fault(5, seven + kinds[last] + "1");
            }
        }
        // wherever it stands
        for (String ahead : new String[] {"", "all or ", "all and ", "1=1 or ", "1<2 and all or "}) {
            fault(5, "jumps " + ahead + "[[[[[[[^[all");
            fault(5, "jumps " + ahead + "(((((((^(1");
            fault(5, "jumps " + ahead + "1=(((((((^(1");
            fault(5, "jumps " + ahead + "if([[[[[[^[all");
        }
        for (String ahead : new String[] {"1+", "1-", "1*", "1/", "1%", "1+2*", "guard-"}) {
            fault(5, "likes " + ahead + "(((((((^(1");
            fault(5, "likes min(1," + ahead + "((((((^(1");
            fault(5, "likes max(" + ahead + "((((((^(1");
            fault(5, "likes if(all,1," + ahead + "((((((^(1");
            fault(5, "likes if(all," + ahead + "((((((^(1");
        }
        fault(5, "likes 1+(min(2,(if([[not ^[all]");
        fault(5, "likes 1+(min((2),(if([((3))=4],5,(if(all,(^(6");
        String sum = "(".repeat(7) + "1" + ")".repeat(7);
        String less = "(".repeat(6) + "1" + ")".repeat(6);
        String test = "[".repeat(6) + "all" + "]".repeat(6);
        good("likes " + sum + "+" + sum + "*min(" + less + "," + less + ");");
        good("jumps [" + test + "] and [" + test + "] or " + sum + "=" + sum + " and not " + test + ";");
        good("jumps if(" + test + "," + less + "," + less + ")=1;");
    }

    /** Not until its FACT ends. */
    private static void notUntilItsFactEnds() {
        good("jumps " + "not all and ".repeat(9) + "not all;");
        good("jumps not 1=1 and not 1=1 and not 1=1 and not 1=1 and not 1=1 and not 1=1 and not 1=1 and not 1=1;");
        good("jumps not 1=1 or (((((((1)))))))=1;");
        good("jumps not [all] and [[[[[[[all]]]]]]];");
        good("jumps not ((((((1))))))=((((((1))))));");
        good("jumps [not all and [[[[[not all]]]]]];");
        fault(5, "jumps not ((((((^(1");
        fault(5, "jumps not 1=((((((^(1");
        fault(5, "jumps not [[[[[[^[all");
        fault(5, "jumps not not 1=1+(((((^(1");
        fault(5, "jumps [not all and [[[[[[^not all");
    }

    /** 6 one too many of a kind of STATEMENT, or the 81st STATEMENT (whatever it is), at its first byte. */
    private static void oneTooMany() {
        fault(6, counties(7) + "  ^county");
        fault(6, counties(7) + rails(12) + "^rail");
        fault(6, counties(7) + men(6) + "^man");
        fault(6, "jumps all;\n^jumps");
        fault(6, "likes 1;\n^likes");
        fault(1, counties(7) + "  ^countx");
        // the kinds are counted one by one
        FaultsTest.good(counties(7) + men(6) + rails(12) + "likes 1;jumps all;", 27);
        String eighty = A + "post 1;".repeat(79);
        for (String statement : new String[] {"post 1;", "county b quota", "rail a to a", "man a", "jumps x", "likes", "x", ";",
            "(", "5", "county12345", "sevenab", "12345", "?"}) {
            fault(6, eighty + "^" + statement);
        }
        fault(6, eighty + " \n^;");
        FaultsTest.good(eighty + " \n", 80);
    }
}
