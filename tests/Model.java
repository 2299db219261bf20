import java.util.ArrayList;
import java.util.Arrays;
import java.util.Comparator;
import java.util.HashSet;
import java.util.List;
import java.util.Set;

/** The document once more, written as plainly as can be and unlike the class: trees, lists, whole copies, all tried. */
final class Model {
    /** A FAULT on the way through a text. */
    static final class Fault extends RuntimeException {
        private static final long serialVersionUID = 1L;
        final int kind;
        final int place;

        Fault(int kind, int place) {
            this.kind = kind;
            this.place = place;
        }
    }

    interface Sum {
        long of(Asked a);
    }

    interface Test {
        boolean of(Asked a);
    }

    /** What a SUM may ask for. */
    static final class Asked {
        long guard, pays, names, purse, week, quota, far;
    }

    static final class County {
        String name;
        int told, quota, pays, guard;

        County copy() {
            County c = new County();
            c.name = name;
            c.told = told;
            c.quota = quota;
            c.pays = pays;
            c.guard = guard;
            return c;
        }
    }

    static final class Man {
        String name;
        int at, is, left, names, purse, signs;

        Man copy() {
            Man m = new Man();
            m.name = name;
            m.at = at;
            m.is = is;
            m.left = left;
            m.names = names;
            m.purse = purse;
            m.signs = signs;
            return m;
        }
    }

    /** A LETTER that tells of a man is in a county at a week. */
    record Letter(int man, int county, int week) {
    }

    static final class World {
        int week;
        List<County> counties = new ArrayList<>();
        List<Man> men = new ArrayList<>();
        List<Letter> letters = new ArrayList<>();
        List<int[]> kept = new ArrayList<>();

        World copy() {
            World w = new World();
            w.week = week;
            counties.forEach(c -> w.counties.add(c.copy()));
            men.forEach(m -> w.men.add(m.copy()));
            w.letters.addAll(letters);
            w.kept.addAll(kept);
            return w;
        }
    }

    /** What the text told beside what changes. */
    static final class Told {
        World first = new World();
        List<int[]> rails = new ArrayList<>();
        int statements;
        int post = 2;
        Test jumps;
        Sum likes;
    }

    static final Set<String> OWN = new HashSet<>(Arrays.asList("county", "quota", "pays", "guard", "rail", "to",
        "weeks", "man", "at", "signs", "jumps", "likes", "post", "names", "purse", "week", "far", "if", "or", "and",
        "not", "all", "min", "max"));

    /** Reads a text; throws the first FAULT. */
    static final class Reading {
        final String text;
        int i = 0;
        boolean glued = false;
        final Told told = new Told();
        boolean likesNow;

        Reading(String text) {
            this.text = text;
        }

        static boolean letter(char c) {
            return c >= 'a' && c <= 'z';
        }

        static boolean digit(char c) {
            return c >= '0' && c <= '9';
        }

        void blanks() {
            while (i < text.length() && (text.charAt(i) == ' ' || text.charAt(i) == '\n')) {
                i++;
                glued = false;
            }
        }

        /** What stands next, not taken: "" at the end. */
        String peek() {
            blanks();
            if (i == text.length()) {
                return "";
            }
            char c = text.charAt(i);
            if (!letter(c) && !digit(c)) {
                return "" + c;
            }
            if (glued) {
                throw new Fault(1, i);
            }
            int j = i;
            while (j < text.length() && (letter(c) ? letter(text.charAt(j)) : digit(text.charAt(j)))) {
                j++;
            }
            int most = letter(c) ? 6 : 4;
            if (j - i > most) {
                throw new Fault(1, i + most);
            }
            return text.substring(i, j);
        }

        void take(String t) {
            i += t.length();
            glued = letter(t.charAt(0)) || digit(t.charAt(0));
        }

        Fault bad() {
            return new Fault(1, i);
        }

        boolean comes(String... any) {
            return Arrays.asList(any).contains(peek());
        }

        void must(String t) {
            if (!peek().equals(t)) {
                throw bad();
            }
            take(t);
        }

        int number(int least, int most) {
            String t = peek();
            if (t.isEmpty() || !digit(t.charAt(0))) {
                throw bad();
            }
            int n = Integer.parseInt(t);
            if (n < least || n > most) {
                throw new Fault(4, i);
            }
            take(t);
            return n;
        }

        String name() {
            String t = peek();
            if (t.isEmpty() || !letter(t.charAt(0)) || OWN.contains(t)) {
                throw bad();
            }
            return t;
        }

        String newName() {
            String t = name();
            if (told.first.counties.stream().anyMatch(c -> c.name.equals(t))
                || told.first.men.stream().anyMatch(m -> m.name.equals(t))) {
                throw new Fault(2, i);
            }
            take(t);
            return t;
        }

        int countyBy(String t) {
            for (int c = 0; c < told.first.counties.size(); c++) {
                if (told.first.counties.get(c).name.equals(t)) {
                    return c;
                }
            }
            throw new Fault(3, i);
        }

        Told all() {
            for (blanks(); i < text.length(); blanks()) {
                if (told.statements == 80) {
                    throw new Fault(6, i);
                }
                int at = i;
                String t = peek();
                World w = told.first;
                switch (t) {
                    case "county" -> {
                        many(w.counties.size() == 7, at);
                        take(t);
                        County c = new County();
                        c.name = newName();
                        must("quota");
                        c.told = c.quota = number(0, 20);
                        must("pays");
                        c.pays = number(0, 999);
                        must("guard");
                        c.guard = number(0, 9);
                        w.counties.add(c);
                    }
                    case "rail" -> {
                        many(told.rails.size() == 12, at);
                        take(t);
                        rail();
                    }
                    case "man" -> {
                        many(w.men.size() == 6, at);
                        take(t);
                        Man m = new Man();
                        m.name = newName();
                        must("at");
                        String home = name();
                        m.at = countyBy(home);
                        take(home);
                        must("signs");
                        m.signs = number(0, 63);
                        w.men.add(m);
                    }
                    case "jumps" -> {
                        many(told.jumps != null, at);
                        take(t);
                        likesNow = false;
                        told.jumps = test(0);
                    }
                    case "likes" -> {
                        many(told.likes != null, at);
                        take(t);
                        likesNow = true;
                        told.likes = sum(0);
                    }
                    case "post" -> {
                        take(t);
                        told.post = number(0, 9);
                    }
                    default -> throw bad();
                }
                must(";");
                told.statements++;
            }
            return told;
        }

        void many(boolean is, int at) {
            if (is) {
                throw new Fault(6, at);
            }
        }

        void rail() {
            String one = name();
            int from = countyBy(one);
            take(one);
            must("to");
            String two = name();
            int to = countyBy(two);
            if (to == from) {
                throw new Fault(3, i);
            }
            for (int[] r : told.rails) {
                if (r[0] == from && r[1] == to || r[0] == to && r[1] == from) {
                    throw new Fault(3, i);
                }
            }
            take(two);
            must("weeks");
            told.rails.add(new int[] {from, to, number(1, 9)});
        }

        int open(String t, int depth) {
            if (!peek().equals(t)) {
                throw bad();
            }
            if (depth == 7) {
                throw new Fault(5, i);
            }
            take(t);
            return depth + 1;
        }

        Test test(int d) {
            Test a = both(d);
            while (comes("or")) {
                take("or");
                Test l = a;
                Test r = both(d);
                a = x -> l.of(x) || r.of(x);
            }
            return a;
        }

        Test both(int d) {
            Test a = fact(d);
            while (comes("and")) {
                take("and");
                Test l = a;
                Test r = fact(d);
                a = x -> l.of(x) && r.of(x);
            }
            return a;
        }

        Test fact(int d) {
            if (comes("not")) {
                Test a = fact(open("not", d));
                return x -> !a.of(x);
            }
            if (comes("[")) {
                Test a = test(open("[", d));
                must("]");
                return a;
            }
            if (comes("all")) {
                take("all");
                return x -> true;
            }
            Sum l = sum(d);
            String sign = peek();
            if (!comes("<", ">", "=")) {
                throw bad();
            }
            take(sign);
            Sum r = sum(d);
            return switch (sign) {
                case "<" -> x -> l.of(x) < r.of(x);
                case ">" -> x -> l.of(x) > r.of(x);
                default -> x -> l.of(x) == r.of(x);
            };
        }

        static long cut(long v) {
            return v > 1000000 ? 1000000 : v < -1000000 ? -1000000 : v;
        }

        static long by(long a, long b) {
            if (b == 0) {
                return 0;
            }
            long q = a / b;
            return a % b != 0 && (a < 0) != (b < 0) ? q - 1 : q;
        }

        Sum sum(int d) {
            Sum a = product(d);
            while (comes("+", "-")) {
                boolean plus = comes("+");
                take("+");
                Sum l = a;
                Sum r = product(d);
                a = plus ? x -> cut(l.of(x) + r.of(x)) : x -> cut(l.of(x) - r.of(x));
            }
            return a;
        }

        Sum product(int d) {
            Sum a = part(d);
            while (comes("*", "/", "%")) {
                String sign = peek();
                take(sign);
                Sum l = a;
                Sum r = part(d);
                a = switch (sign) {
                    case "*" -> x -> cut(l.of(x) * r.of(x));
                    case "/" -> x -> cut(by(l.of(x), r.of(x)));
                    default -> x -> r.of(x) == 0 ? 0 : cut(l.of(x) - r.of(x) * by(l.of(x), r.of(x)));
                };
            }
            return a;
        }

        Sum part(int d) {
            String t = peek();
            if (!t.isEmpty() && digit(t.charAt(0))) {
                int n = number(0, 9999);
                return x -> n;
            }
            if (t.equals("(")) {
                Sum a = sum(open("(", d));
                must(")");
                return a;
            }
            if (t.equals("min") || t.equals("max")) {
                take(t);
                int in = open("(", d);
                Sum a = sum(in);
                must(",");
                Sum b = sum(in);
                must(")");
                return t.equals("min") ? x -> Math.min(a.of(x), b.of(x)) : x -> Math.max(a.of(x), b.of(x));
            }
            if (t.equals("if")) {
                take(t);
                int in = open("(", d);
                Test c = test(in);
                must(",");
                Sum a = sum(in);
                must(",");
                Sum b = sum(in);
                must(")");
                return x -> c.of(x) ? a.of(x) : b.of(x);
            }
            Sum a = switch (t) {
                case "guard" -> x -> x.guard;
                case "pays" -> x -> x.pays;
                case "names" -> x -> x.names;
                case "purse" -> x -> x.purse;
                case "week" -> x -> x.week;
                case "quota" -> likesNow ? x -> x.quota : null;
                case "far" -> likesNow ? x -> x.far : null;
                default -> null;
            };
            if (a == null) {
                throw bad();
            }
            take(t);
            return a;
        }
    }

    private String tape = "";
    private Told told = new Told();
    private World now = new World();
    private final List<World> undo = new ArrayList<>();
    private List<int[]> seen = new ArrayList<>();
    private List<Integer> image = new ArrayList<>();
    private long seed = 1;
    private int faultKind = 0;
    private int faultPlace = -1;
    private final int[] refused = new int[6];

    private static boolean in(long v, long least, long most) {
        return v >= least && v <= most;
    }

    private boolean isCounty(int c) {
        return in(c, 0, now.counties.size() - 1);
    }

    private boolean isMan(int m) {
        return in(m, 0, now.men.size() - 1);
    }

    private long refuse(int kind, long answer) {
        refused[kind]++;
        return answer;
    }

    /** Bellman and Ford. */
    int way(int from, int to) {
        if (!isCounty(from) || !isCounty(to)) {
            return -1;
        }
        int[] far = new int[now.counties.size()];
        Arrays.fill(far, 99999);
        far[from] = 0;
        for (int k = 0; k < 10; k++) {
            for (int[] r : told.rails) {
                far[r[0]] = Math.min(far[r[0]], far[r[1]] + r[2]);
                far[r[1]] = Math.min(far[r[1]], far[r[0]] + r[2]);
            }
        }
        return far[to] >= 99999 ? -1 : far[to];
    }

    private static boolean knownAt(World w, int man, int county, int week) {
        for (Letter l : w.letters) {
            if (l.county == county && l.week <= week && w.men.get(l.man).signs == w.men.get(man).signs) {
                return true;
            }
        }
        return false;
    }

    private static int letterIn(World w, int man, int county) {
        int first = Integer.MAX_VALUE;
        for (Letter l : w.letters) {
            if (l.county == county && l.man == man) {
                first = Math.min(first, l.week);
            }
        }
        return first == Integer.MAX_VALUE ? -1 : Math.max(0, first - w.week);
    }

    private Asked asked(World w, Man m, int county, int far) {
        County c = w.counties.get(county);
        Asked a = new Asked();
        a.guard = c.guard;
        a.pays = c.pays;
        a.quota = c.quota;
        a.names = m.names;
        a.purse = m.purse;
        a.week = w.week;
        a.far = far;
        return a;
    }

    /** Where he would go ON to, -1 for nowhere. */
    private int goal(World w, Man m) {
        int to = -1;
        long most = Long.MIN_VALUE;
        for (int c = 0; c < w.counties.size(); c++) {
            int far = way(m.at, c);
            if (c != m.at && far >= 0) {
                Asked a = asked(w, m, c, far);
                long likes = told.likes == null ? a.pays : told.likes.of(a);
                if (likes > most) {
                    most = likes;
                    to = c;
                }
            }
        }
        return to;
    }

    private void goOn(World w, Man m) {
        int to = goal(w, m);
        if (to < 0) {
            m.is = 0;
        } else {
            m.is = 1;
            m.left = way(m.at, to);
            m.at = to;
        }
    }

    private static void keep(World w, int man, int county, int what) {
        w.kept.add(new int[] {w.week, man, county, what});
    }

    /** How often one ENLISTED. */
    private int week(World w) {
        int enlisted = 0;
        for (int k = 0; k < w.men.size(); k++) {
            Man m = w.men.get(k);
            County c = w.counties.get(m.at);
            if (m.is == 1) {
                m.left--;
                m.is = m.left == 0 ? 0 : 1;
            } else if (m.is == 0 && knownAt(w, k, m.at, w.week)) {
                m.is = 3;
                keep(w, k, m.at, 3);
            } else if (m.is == 0 && c.quota > 0) {
                c.quota--;
                m.purse = Math.min(9999, m.purse + c.pays);
                m.names = Math.min(99, m.names + 1);
                m.is = 2;
                keep(w, k, m.at, 1);
                enlisted++;
            } else if (m.is == 0) {
                goOn(w, m);
            } else if (m.is == 2 && (told.jumps == null || told.jumps.of(asked(w, m, m.at, 0)))) {
                for (int to = 0; to < w.counties.size(); to++) {
                    if (way(m.at, to) >= 0) {
                        w.letters.add(new Letter(k, to, w.week + way(m.at, to) + told.post));
                    }
                }
                keep(w, k, m.at, 2);
                goOn(w, m);
            } else if (m.is == 2) {
                m.is = 4;
                keep(w, k, m.at, 4);
            }
        }
        w.week++;
        return enlisted;
    }

    private long draw(int m) {
        seed = (1103515245L * seed + 12345L) % (1L << 31);
        return seed / 64 % m;
    }

    private int guardsTake() {
        int taken = 0;
        for (int k = 0; k < now.men.size(); k++) {
            Man m = now.men.get(k);
            if (m.is == 2 && draw(100) < 10L * now.counties.get(m.at).guard) {
                m.is = 4;
                keep(now, k, m.at, 4);
                taken++;
            }
        }
        return taken;
    }

    private World ahead(int n) {
        World w = now.copy();
        for (int k = 0; k < n; k++) {
            week(w);
        }
        return w;
    }

    private int most() {
        return Math.min(80, 999 - now.week);
    }

    private void act() {
        undo.add(now.copy());
        if (undo.size() > 20) {
            undo.remove(0);
        }
    }

    private static int quotas(World w) {
        return w.counties.stream().mapToInt(c -> c.quota).sum();
    }

    /** All rows of a length, the first ones ahead. */
    private static void rows(List<Integer> row, int length, int counties, List<List<Integer>> to) {
        if (row.size() == length) {
            to.add(new ArrayList<>(row));
            return;
        }
        for (int c = 0; c < counties; c++) {
            if (!row.contains(c)) {
                row.add(c);
                rows(row, length, counties, to);
                row.remove(row.size() - 1);
            }
        }
    }

    /** In how many WEEKS he comes to the last one, or -1. */
    private int comes(int man, List<Integer> row) {
        List<Letter> sent = new ArrayList<>();
        int at = now.men.get(man).at;
        int t = 0;
        for (int k = 0; k < row.size(); k++) {
            int c = row.get(k);
            if (way(at, c) < 0 || now.counties.get(c).quota == 0) {
                return -1;
            }
            t += way(at, c);
            if (knownAt(now, man, c, now.week + t)) {
                return -1;
            }
            for (Letter l : sent) {
                if (l.county == c && l.week <= t) {
                    return -1;
                }
            }
            if (k < row.size() - 1) {
                t++;
                for (int to = 0; to < now.counties.size(); to++) {
                    if (way(c, to) >= 0) {
                        sent.add(new Letter(man, to, t + way(c, to) + told.post));
                    }
                }
            }
            at = c;
        }
        return t;
    }

    private long round(int man, int k) {
        if (!isMan(man) || !in(k, 0, 5) || now.men.get(man).is != 0) {
            return -1;
        }
        List<Integer> best = null;
        int bestGain = -1;
        int bestComes = -1;
        for (int length = 1; length <= 4; length++) {
            List<List<Integer>> all = new ArrayList<>();
            rows(new ArrayList<>(), length, now.counties.size(), all);
            for (List<Integer> row : all) {
                int t = comes(man, row);
                int gain = row.stream().mapToInt(c -> now.counties.get(c).pays).sum();
                if (t >= 0 && (best == null || gain > bestGain || gain == bestGain && t < bestComes)) {
                    best = row;
                    bestGain = gain;
                    bestComes = t;
                }
            }
        }
        if (best == null) {
            return -1;
        }
        return k == 4 ? bestGain : k == 5 ? bestComes : k < best.size() ? best.get(k) : -1;
    }

    private long lured(int man, int county) {
        if (!isMan(man) || !isCounty(county) || now.men.get(man).is != 0 || now.men.get(man).at == county) {
            return -1;
        }
        World w = now.copy();
        for (int p = 0; p <= 999; p++) {
            w.counties.get(county).pays = p;
            if (goal(w, w.men.get(man)) == county) {
                return p;
            }
        }
        return -1;
    }

    private long best(int county, int n, int what) {
        if (!isCounty(county) || !in(n, 1, 40) || n > most() || !in(what, 0, 1)) {
            return -1;
        }
        int least = 999;
        int pay = -1;
        for (int p = 0; p <= 999; p += 37) {
            World w = now.copy();
            w.counties.get(county).pays = p;
            for (int k = 0; k < n; k++) {
                week(w);
            }
            if (w.counties.get(county).quota < least) {
                least = w.counties.get(county).quota;
                pay = p;
            }
        }
        return what == 0 ? pay : least;
    }

    /** All sets below, the fewest and then the least ahead. */
    private static List<Integer> sets(int below) {
        List<Integer> all = new ArrayList<>();
        for (int k = 0; k < below; k++) {
            all.add(k);
        }
        all.sort(Comparator.comparingInt(Integer::bitCount).thenComparing(Comparator.naturalOrder()));
        return all;
    }

    private long marks() {
        for (int bits : sets(64)) {
            boolean good = true;
            for (Man a : now.men) {
                for (Man b : now.men) {
                    good &= a.signs == b.signs || (a.signs & bits) != (b.signs & bits);
                }
            }
            if (good) {
                return bits;
            }
        }
        return -9;
    }

    private long staffed(int n) {
        if (!in(n, 0, 99)) {
            return -1;
        }
        for (int bits : sets(1 << now.counties.size())) {
            boolean good = true;
            for (int c = 0; c < now.counties.size(); c++) {
                boolean near = false;
                for (int s = 0; s < now.counties.size(); s++) {
                    near |= (bits >> s & 1) == 1 && in(way(s, c), 0, n);
                }
                good &= near;
            }
            if (good) {
                return bits;
            }
        }
        return -9;
    }

    private long who(int what) {
        List<Integer> left = new ArrayList<>();
        int bits = 0;
        for (int k = 0; k < now.men.size(); k++) {
            int signs = now.men.get(k).signs;
            if (seen.stream().allMatch(r -> (signs >> r[0]) % 2 == r[1])) {
                left.add(signs);
                bits += 1 << k;
            }
        }
        if (what == 0) {
            return bits;
        }
        if (left.isEmpty() || !in(what, 1, 2)) {
            return -1;
        }
        long sign = -1;
        long fewest = 99;
        for (int s = 0; s < 6; s++) {
            int at = s;
            long have = left.stream().filter(m -> (m >> at) % 2 == 1).count();
            long most = Math.max(have, left.size() - have);
            if (most < fewest) {
                fewest = most;
                sign = s;
            }
        }
        return what == 1 ? sign : fewest;
    }

    private static int sum(List<Integer> bytes) {
        int c = 181;
        for (int b : bytes) {
            c = (5 * c + b) % 251;
        }
        return c;
    }

    private long image() {
        List<Integer> b = new ArrayList<>(List.of(now.week / 256, now.week % 256));
        for (County c : now.counties) {
            b.addAll(List.of(c.quota, c.pays / 256, c.pays % 256, c.guard));
        }
        for (int k = 0; k < now.men.size(); k++) {
            Man m = now.men.get(k);
            b.addAll(List.of(m.at, m.is, m.is == 1 ? m.left : 0, m.names, m.purse / 256, m.purse % 256));
            for (int c = 0; c < now.counties.size(); c++) {
                b.add(Math.min(255, letterIn(now, k, c) + 1));
            }
        }
        b.add(sum(b));
        image = b;
        return b.size();
    }

    private long on() {
        List<Integer> b = new ArrayList<>();
        tape.chars().forEach(b::add);
        tape = "";
        int counties = now.counties.size();
        if (b.size() != 3 + 4 * counties + now.men.size() * (6 + counties) || b.remove(b.size() - 1) != sum(b)) {
            return refuse(5, 0);
        }
        World w = told.first.copy();
        int at = 2;
        w.week = 256 * b.get(0) + b.get(1);
        boolean good = w.week <= 999;
        for (County c : w.counties) {
            c.quota = b.get(at);
            c.pays = 256 * b.get(at + 1) + b.get(at + 2);
            c.guard = b.get(at + 3);
            good &= c.quota <= c.told && c.pays <= 999 && c.guard <= 9;
            at += 4;
        }
        for (int k = 0; k < w.men.size(); k++) {
            Man m = w.men.get(k);
            m.at = b.get(at);
            m.is = b.get(at + 1);
            m.left = b.get(at + 2);
            m.names = b.get(at + 3);
            m.purse = 256 * b.get(at + 4) + b.get(at + 5);
            at += 6;
            good &= m.at < counties && m.is <= 4 && m.names <= 99 && m.purse <= 9999;
            good &= m.is == 1 ? in(m.left, 1, 99) : m.left == 0;
            for (int c = 0; c < counties; c++) {
                if (b.get(at) > 0) {
                    w.letters.add(new Letter(k, c, w.week + b.get(at) - 1));
                }
                at++;
            }
        }
        if (!good) {
            return refuse(5, 0);
        }
        now = w;
        undo.clear();
        return 1;
    }

    private long war() {
        String text = tape;
        tape = "";
        faultKind = 0;
        faultPlace = -1;
        try {
            told = new Reading(text).all();
        } catch (Fault f) {
            faultKind = f.kind;
            faultPlace = f.place;
            return refuse(1, -1);
        }
        now = told.first.copy();
        seen = new ArrayList<>();
        undo.clear();
        return told.statements;
    }

    private long see() {
        String t = tape;
        tape = "";
        List<int[]> rows = new ArrayList<>();
        boolean good = t.length() % 2 == 0 && in(t.length(), 2, 32);
        for (int k = 0; k + 1 < t.length(); k += 2) {
            rows.add(new int[] {t.charAt(k), t.charAt(k + 1)});
            good &= t.charAt(k) < 6 && t.charAt(k + 1) < 2;
        }
        if (!good) {
            return refuse(5, -1);
        }
        seen = rows;
        return rows.size();
    }

    private long has(int what) {
        return switch (what) {
            case 0 -> now.counties.size();
            case 1 -> told.rails.size();
            case 2 -> now.men.size();
            case 3 -> now.week;
            case 4 -> quotas(now);
            case 5 -> now.men.stream().filter(m -> m.is == 3).count();
            case 6 -> now.men.stream().filter(m -> m.is == 4).count();
            case 7 -> now.men.stream().mapToInt(m -> m.names).sum();
            case 8 -> now.men.stream().mapToInt(m -> m.purse).sum();
            case 9 -> Math.min(60, now.kept.size());
            case 10 -> seen.size();
            case 11 -> undo.size();
            case 12 -> seed;
            default -> -1;
        };
    }

    private long letter(int kind, int which, int k) {
        String name = kind == 0 && isCounty(which) ? now.counties.get(which).name
            : kind == 1 && isMan(which) ? now.men.get(which).name : null;
        return name == null || !in(k, 0, 5) ? -1 : k < name.length() ? name.charAt(k) - 'a' + 1 : 0;
    }

    private long county(int county, int what) {
        if (!isCounty(county)) {
            return -1;
        }
        County c = now.counties.get(county);
        int bits = 0;
        for (int k = 0; k < now.men.size(); k++) {
            bits += knownAt(now, k, county, now.week) ? 1 << k : 0;
        }
        return switch (what) {
            case 0 -> c.quota;
            case 1 -> c.pays;
            case 2 -> c.guard;
            case 3 -> bits;
            default -> -1;
        };
    }

    private static long of(Man m, int what) {
        return switch (what) {
            case 0 -> m.at;
            case 1 -> m.is;
            case 2 -> m.is == 1 ? m.left : 0;
            case 3 -> m.names;
            case 4 -> m.purse;
            case 5 -> m.signs;
            default -> -1;
        };
    }

    private long later(int man, int n, int what) {
        if (!isMan(man) || !in(n, 0, most()) || !in(what, 0, 3)) {
            return -1;
        }
        Man m = ahead(n).men.get(man);
        return what == 0 ? m.is : what == 1 ? m.at : what == 2 ? m.names : m.purse;
    }

    private long caught(int man) {
        for (int n = 0; isMan(man) && n <= most(); n++) {
            if (ahead(n).men.get(man).is == 3) {
                return n;
            }
        }
        return -1;
    }

    private long filled() {
        for (int n = 0; n <= most(); n++) {
            if (quotas(ahead(n)) == 0) {
                return n;
            }
        }
        return -1;
    }

    private long go(int n, boolean bySeed) {
        if (!in(n, 1, 100) || now.week + n > 999) {
            return refuse(2, -1);
        }
        act();
        long enlisted = 0;
        long taken = 0;
        for (int k = 0; k < n; k++) {
            taken += bySeed ? guardsTake() : 0;
            enlisted += week(now);
        }
        return bySeed ? taken : enlisted;
    }

    private long change(int county, int much, boolean pay) {
        if (!isCounty(county) || !in(much, 0, pay ? 999 : 9)) {
            return refuse(3, 0);
        }
        County c = now.counties.get(county);
        if ((pay ? c.pays : c.guard) == much) {
            return refuse(3, 0);
        }
        act();
        c = now.counties.get(county);
        if (pay) {
            c.pays = much;
        } else {
            c.guard = much;
        }
        return 1;
    }

    private long tell(int man, int county) {
        if (!isMan(man) || !isCounty(county) || letterIn(now, man, county) == 0) {
            return refuse(3, 0);
        }
        act();
        now.letters.add(new Letter(man, county, now.week));
        return 1;
    }

    private long kept(int k, int what) {
        int told = Math.min(60, now.kept.size());
        return in(k, 0, told - 1) && in(what, 0, 3) ? now.kept.get(now.kept.size() - told + k)[what] : -1;
    }

    private long feed(int... five) {
        if (tape.length() + 20 > 1600) {
            return refuse(0, -1);
        }
        StringBuilder more = new StringBuilder(tape);
        for (int number : five) {
            for (int k = 3; k >= 0; k--) {
                more.append((char) (number >> 8 * k & 255));
            }
        }
        tape = more.toString();
        return tape.length();
    }

    /** A call by its name; a boolean counts 1 or 0. */
    long call(String name, int... a) {
        switch (name) {
            case "feed": return feed(a);
            case "end":
                if (!in(a[0], 0, tape.length())) {
                    return refuse(0, 0);
                }
                tape = tape.substring(0, a[0]);
                return 1;
            case "war": return war();
            case "fault": return a[0] == 0 ? faultKind : a[0] == 1 ? faultPlace : -1;
            case "has": return has(a[0]);
            case "letter": return letter(a[0], a[1], a[2]);
            case "county": return county(a[0], a[1]);
            case "way": return way(a[0], a[1]);
            case "man": return isMan(a[0]) ? of(now.men.get(a[0]), a[1]) : -1;
            case "known": return isMan(a[0]) && isCounty(a[1]) ? letterIn(now, a[0], a[1]) : -1;
            case "later": return later(a[0], a[1], a[2]);
            case "caught": return caught(a[0]);
            case "filled": return filled();
            case "round": return round(a[0], a[1]);
            case "lured": return lured(a[0], a[1]);
            case "best": return best(a[0], a[1], a[2]);
            case "marks": return marks();
            case "staffed": return staffed(a[0]);
            case "see": return see();
            case "who": return who(a[0]);
            case "weeks": return go(a[0], false);
            case "chance": return go(a[0], true);
            case "pay": return change(a[0], a[1], true);
            case "guard": return change(a[0], a[1], false);
            case "tell": return tell(a[0], a[1]);
            case "undo":
                if (undo.isEmpty()) {
                    return refuse(4, 0);
                }
                now = undo.remove(undo.size() - 1);
                return 1;
            case "seed":
                if (a[0] < 0) {
                    return refuse(5, 0);
                }
                seed = a[0];
                return 1;
            case "kept": return kept(a[0], a[1]);
            case "image": return image();
            case "octet": return in(a[0], 0, image.size() - 1) ? image.get(a[0]) : -1;
            case "on": return on();
            case "status": return in(a[0], 0, 5) ? refused[a[0]] : -1;
            default: throw new IllegalArgumentException(name);
        }
    }
}
