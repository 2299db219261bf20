/** The text of a WAR: its FAULTS and places (promises 4 and 5), and what its SUMS and TESTS come to. */
public final class FaultsTest {
    private static final String A = "county a quota 1 pays 2 guard 3;";
    private static final String AB = A + "county b quota 1 pays 2 guard 3;";

    private FaultsTest() {
    }

    public static void main(String[] args) {
        texts();
        names();
        numbers();
        nesting();
        many();
        blanks();
        sums();
        tests();
        latest();
        Check.finish();
    }

    /** The place is where the ^ stands. */
    static void fault(int kind, String marked) {
        int place = marked.indexOf('^');
        String text = marked.substring(0, place) + marked.substring(place + 1);
        NineTimes x = new NineTimes();
        Check.due("war of " + marked, Check.war(x, text), -1);
        Check.due("fault of " + marked, x.fault(0), kind);
        Check.due("place of " + marked, x.fault(1), place);
        Check.due("refused " + marked, x.status(1), 1);
        Check.due("fault(2)", x.fault(2), -1);
    }

    static void good(String text, int statements) {
        NineTimes x = new NineTimes();
        Check.due("war of " + text, Check.war(x, text), statements);
        Check.due("fault of " + text, x.fault(0), 0);
        Check.due("place of " + text, x.fault(1), -1);
    }

    private static void texts() {
        String[] marked = {"^x", "^1", "^;", "^(", "^\t", "^A", "^\u00e9", "^quota 1", "^all", "^countx", "^posts 1;",
            "county^", "county ^", "county ^quota quota 1", "county ^1", "county ^;", "county ^names", "county a ^",
            "county a^", "county a ^a", "county a ^pays 1", "county a ^1", "county a quota ^x", "county a quota^",
            "county a quota ^quota", "county a quota 1^", "county a quota 1^;", "county a quota 1 ^guard 1",
            "county a quota 1 pays 2 guard 3^", "county a quota 1 pays 2 guard 3 ^county", "county a quota ^-1",
            A + "^x", AB + "rail ^", AB + "rail ^1", AB + "rail ^to", AB + "rail a ^b", AB + "rail a to ^weeks",
            AB + "rail a to b ^1", AB + "rail a to b weeks ^;", AB + "rail a to b weeks 1^", AB + "rail a ^at b",
            A + "man ^1", A + "man m ^to", A + "man m at ^at", A + "man m at a ^1",
            A + "man m at a signs^", A + "man m at a signs ^;", A + "man m at a signs 1 ^2",
            "jumps^", "jumps ^;", "jumps 1^;", "jumps 1<^", "jumps 1<^;", "jumps 1<2^",
            "jumps 1<2 ^3", "jumps 1^!2", "jumps (1^<", "jumps (1^<2)", "jumps [1<2^;", "jumps [1<2^)", "jumps ^]",
            "jumps not^;", "jumps not ^or", "jumps all ^all", "jumps all and^", "jumps all and ^or all", "jumps all or ^;",
            "jumps 1<2^<3", "jumps ^quota>1", "jumps ^far>1", "jumps 1+^far>1", "jumps ^x>1", "jumps ^county",
            "jumps if(all,1,^quota)=1", "jumps 1 ^all", "likes ^", "likes ^;", "likes ^all", "likes ^not 1", "likes ^[1]",
            "likes 1^<2", "likes 1+^;", "likes 1*^*1", "likes ^-1", "likes ^+1", "likes (1^;", "likes (1^]", "likes (^)", "likes min^", "likes min ^1", "likes min(1^)", "likes min(1,2^,3)", "likes max(1,^)",
            "likes if(1^,2,3", "likes if(all^)", "likes if(all,1^)", "likes if(all,1,2^",
            "likes if(all,1,2^,", "likes week^", "likes week%^", "post^", "post ^;", "post ^x", "post 1^", "post 1 ^post"};
        for (String text : marked) {
            fault(1, text);
        }
        good("", 0);
        good(A, 1);
        good(AB + "rail b to a weeks 9;man m at b signs 63;jumps all;likes 1;post 9;", 7);
        good("likes if(not [guard<1 or pays=2 and all],min(names,purse),max(week,quota)-far*(1+2)/3%4);", 1);
        good("jumps if(not [guard<1 or pays=2 and all],min(names,purse),max(week,0)-1*(1+2)/3%4)>0;", 1);
        good("post 1;post 1;post 1;", 3);
    }

    private static void names() {
        fault(1, "county sevena^b");
        fault(1, "sevena^b");
        fault(1, "county^a a");
        fault(1, "county a quotaa^a");
        fault(1, "county a quota sevena^bc");
        fault(1, A + "county ^Ab");
        fault(1, A + "county b^B");
        fault(1, "likes sevena^b");
        fault(2, A + "county ^a");
        fault(2, A + "county ^a 1");
        fault(2, A + "man ^a");
        fault(2, A + "man m at a signs 0;man ^m at x");
        fault(2, A + "man m at a signs 0;county ^m");
        fault(3, "rail ^a to b weeks 1;");
        fault(3, A + "rail ^x to a");
        fault(3, A + "rail a to ^x");
        fault(3, A + "rail a to ^a weeks 1");
        fault(3, A + "man m at a signs 0;rail a to ^m");
        fault(3, A + "man m at ^m");
        fault(3, A + "man m at ^b signs 0;county b quota 1 pays 1 guard 1;");
        fault(3, AB + "rail a to b weeks 1;rail a to ^b");
        fault(3, AB + "rail a to b weeks 1;rail b to ^a");
        good(A + "county abcdef quota 0 pays 0 guard 0;man sam at abcdef signs 0;", 3);
        good(A + "county aa quota 0 pays 0 guard 0;county aaa quota 0 pays 0 guard 0;", 3);
        good("county weekss quota 0 pays 0 guard 0;county alls quota 0 pays 0 guard 0;", 2);
        for (String own : new String[] {"county", "quota", "pays", "guard", "rail", "to", "weeks", "man", "at", "signs",
            "jumps", "likes", "post", "names", "purse", "week", "far", "if", "or", "and", "not", "all", "min", "max"}) {
            fault(1, "county ^" + own + " quota 1");
            fault(1, A + "man ^" + own + " at a");
            fault(1, A + "rail ^" + own);
        }
    }

    private static void numbers() {
        fault(4, "county a quota ^21");
        fault(4, "county a quota ^9999x");
        fault(4, "county a quota 20 pays ^1000");
        fault(4, "county a quota 20 pays 999 guard ^10;");
        fault(4, AB + "rail a to b weeks ^0");
        fault(4, AB + "rail a to b weeks ^10");
        fault(4, A + "man m at a signs ^64");
        fault(4, "post ^10");
        fault(1, "post 1000^0");
        fault(1, "county a quota 0000^0");
        fault(1, "likes 1+1234^5");
        fault(1, "likes 0040^1");
        fault(1, "likes 1 0059^1");
        fault(1, "county 1234^5");
        good("county a quota 0020 pays 0999 guard 0009;post 0000;", 2);
        good("likes 9999+0000;", 1);
        good(AB + "rail a to b weeks 9;", 3);
    }

    private static void nesting() {
        fault(5, "likes (((((((^(1))))))));");
        fault(5, "jumps not not not not not not not ^not all");
        fault(5, "jumps [[[[[[[^[all]]]]]]]];");
        fault(5, "jumps not [not [not [not ^[all");
        fault(5, "likes min(1,min(1,min(1,min(1,min(1,min(1,min(1,min^(1,2");
        fault(5, "likes (((((((1+if^(");
        fault(5, "jumps [[[[[[[^(1");
        good("likes (((((((1)))))))+(((((((2)))))));", 1);
        good("jumps not not not not not not not all and not not not not not not not all;", 1);
        good("jumps not [not [not [not all]]];", 1);
        good("jumps [[[[[[[all]]]]]]] or [[[[[[[all]]]]]]];", 1);
        // a not is open until its FACT ends
        good("jumps not 1=((((((2-1))))));", 1);
        fault(5, "jumps not 1=((((((^(2");
        good("jumps not not not not not not not 1=1 or (((((((1)))))))=1;", 1);
        good("likes min((((((1)))))+1,max(1,(((((2)))))));", 1);
    }

    private static void many() {
        StringBuilder counties = new StringBuilder();
        StringBuilder men = new StringBuilder();
        for (int k = 0; k < 7; k++) {
            counties.append("county c").append((char) ('a' + k)).append(" quota 0 pays 0 guard 0;");
        }
        for (int k = 0; k < 6; k++) {
            men.append("man m").append((char) ('a' + k)).append(" at ca signs 0;");
        }
        StringBuilder rails = new StringBuilder();
        int told = 0;
        for (int k = 0; k < 7; k++) {
            for (int j = 0; j < k && told < 12; j++) {
                rails.append("rail c").append((char) ('a' + k)).append(" to c").append((char) ('a' + j));
                rails.append(" weeks 1;");
                told++;
            }
        }
        good(counties.toString() + men + rails, 25);
        fault(6, counties + "^county");
        fault(6, counties + "^county x");
        fault(6, counties.toString() + men + "^man");
        fault(6, counties.toString() + rails + "^rail x");
        fault(6, "jumps all;^jumps all;");
        fault(6, "likes 1;^likes");
        fault(6, "likes 1;jumps all;^likes");
        String posts = "post 1;".repeat(80);
        good(posts + " \n", 80);
        fault(6, posts + "^post 1;");
        fault(6, posts + " ^county x");
        fault(6, posts + "^jumps");
        // whatever it is
        fault(6, posts + "^x");
        fault(6, posts + "^;");
        fault(6, posts + "^sevenab");
        fault(6, posts + "^12345");
        fault(1, "post 1;".repeat(79) + "post 1^");
    }

    private static void blanks() {
        good("\n county\na\n\nquota 1\npays  2 guard 3\n;\n", 1);
        good("likes(1)+min(2,3);jumps all and[all]or not[all];post 3;", 3);
        good("likes 1 + ( 2 ) * min ( 3 , 4 ) ;", 1);
        fault(1, "county a quota^1 pays 2 guard 3;");
        fault(1, "county a quota 1^pays 2 guard 3;");
        fault(1, "county a quota 1 pays 2 guard 3;post^1;");
        fault(1, "jumps 1<2^or all;");
        fault(1, "jumps week<2 and all or week^2>3");
        fault(1, "post^\r1;");
        fault(1, "post^\t1;");
        fault(1, "post^\0001;");
    }

    /** Whether the TEST holds for one who has enlisted once: names 1, purse 7, WEEK 1, guard 3, pays 7. */
    static boolean holds(String test) {
        NineTimes x = Check.of("county a quota 1 pays 7 guard 3;county b quota 0 pays 0 guard 0;rail a to b weeks 1;"
            + "man m at a signs 0;jumps " + test + ";");
        x.weeks(2);
        Check.due("the state by " + test, x.man(0, 1) == 1 || x.man(0, 1) == 4, true);
        return x.man(0, 1) == 1;
    }

    private static void sums() {
        String[] due = {"guard=3", "pays=7", "names=1", "purse=7", "week=1", "2+3*4=14", "(2+3)*4=20", "9-4-3=2",
            "24/4/3=2", "24/4*3=18", "7%4*2=6", "2*7%4=2", "(0-7)/2=0-4", "(0-7)%2=1", "(0-7)/(0-2)=3", "7/(0-2)=0-4",
            "7%(0-2)=0-1", "(0-7)%(0-2)=0-1", "7/0=0", "7%0=0", "0/5=0", "0%5=0", "(0-8)/2=0-4", "9999*9999=1000*1000",
            "9999*9999-1=999*1001", "0-9999*9999=0-1000*1000", "(0-9999)*9999+1=0-999*1001", "1000*1000+1=1000*1000",
            "0-1000*1000-1=0-1000*1000", "min(3,4)=3", "min(4,3)=3", "max(3,4)=4", "max(4,3)=4", "max(0-1,0-2)=0-1",
            "if(all,1,2)=1", "if(not all,1,2)=2", "if(guard<pays,week+4,0)=5", "if(1<2 and 2<1,5,6)=6",
            "min(if(1=1,9,8),max(2,5))+1=6", "9999%7+9999/7*7=9999", "(0-9999)%7+(0-9999)/7*7=0-9999"};
        for (String test : due) {
            Check.due(test, holds(test), true);
            Check.due("not " + test, holds("not " + test), false);
        }
    }

    private static void tests() {
        String[] hold = {"all", "1<2", "2>1", "2=2", "not 2<1", "1<2 or 2<1", "2<1 or 1<2", "1<2 and 2>1",
            "all or all and 1>2", "1>2 and all or all", "not 1>2 and all", "not not all", "[all]", "[all or 1>2] and all",
            "not [all and 1>2]", "1>2 and 1>2 or all", "1>2 or 1>2 or all", "all and all and all"};
        String[] not = {"not all", "2<1", "1>2", "2<2", "2>2", "1=2", "1>2 or 2<1", "1<2 and 2<1", "[all or 1>2] and 1>2",
            "not [all or 1>2]", "not all or 1>2", "not not not all", "all and 1>2", "all and all and 1>2", "not all and all"};
        for (String test : hold) {
            Check.due(test, holds(test), true);
        }
        for (String test : not) {
            Check.due(test, holds(test), false);
        }
    }

    /** Promise 5: of the latest war(). */
    private static void latest() {
        NineTimes x = new NineTimes();
        Check.war(x, "post 10");
        Check.due("fault", x.fault(0), 4);
        Check.war(x, "post 1;x");
        Check.due("fault", x.fault(0), 1);
        Check.due("place", x.fault(1), 7);
        Check.due("fault(-1)", x.fault(-1), -1);
        Check.due("fault(2)", x.fault(2), -1);
        Check.war(x, "post 1;");
        Check.due("fault", x.fault(0), 0);
        Check.due("place", x.fault(1), -1);
    }
}
