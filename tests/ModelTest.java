import java.lang.reflect.Method;
import java.util.ArrayList;
import java.util.HashMap;
import java.util.List;
import java.util.Map;
import java.util.Random;

/** Many runs of calls by a fixed seed, each answer against the Model's. */
public final class ModelTest {
    private static final Map<String, Method> FACE = new HashMap<>();
    private static final int[] ODD = {-1, 0, 1, 5, 6, 7, 8, 99, 100, 101, 1000, Integer.MAX_VALUE, Integer.MIN_VALUE};

    private final Random random;
    private final NineTimes x = new NineTimes();
    private final Model model = new Model();
    private final StringBuilder run = new StringBuilder();
    private int calls = 0;

    private ModelTest(long seed) {
        random = new Random(seed);
    }

    public static void main(String[] args) throws Exception {
        for (Method m : NineTimes.class.getDeclaredMethods()) {
            FACE.put(m.getName(), m);
        }
        int runs = args.length > 0 ? Integer.parseInt(args[0]) : 250;
        long first = args.length > 1 ? Long.parseLong(args[1]) : 1;
        for (long seed = first; seed < first + runs; seed++) {
            ModelTest test = new ModelTest(seed);
            try {
                test.go();
            } catch (IllegalStateException e) {
                System.out.println("run " + seed + ": " + e.getMessage());
                System.out.println(test.run);
                System.exit(1);
            }
        }
        System.out.println(runs + " runs as the model");
    }

    private long call(String name, int... args) throws Exception {
        Object[] given = new Object[args.length];
        StringBuilder told = new StringBuilder(name).append('(');
        for (int k = 0; k < args.length; k++) {
            given[k] = args[k];
            told.append(k > 0 ? ", " : "").append(args[k]);
        }
        told.append(')');
        Object answer = FACE.get(name).invoke(x, given);
        long got = answer instanceof Boolean ? ((Boolean) answer ? 1 : 0) : (Integer) answer;
        long want = model.call(name, args);
        run.append(told).append(" -> ").append(got).append('\n');
        calls++;
        if (got != want) {
            throw new IllegalStateException(told + " answered " + got + ", due is " + want);
        }
        return got;
    }

    private int below(int n) {
        return random.nextInt(n);
    }

    private boolean once(int in) {
        return random.nextInt(in) == 0;
    }

    private int odd(int n) {
        return once(20) ? ODD[below(ODD.length)] : below(n);
    }

    private void feed(int[] bytes) throws Exception {
        for (int at = 0; at < bytes.length; at += 20) {
            int[] five = new int[5];
            for (int k = 0; k < 20; k++) {
                five[k / 4] = five[k / 4] << 8 | (at + k < bytes.length ? bytes[at + k] & 255 : 32);
            }
            call("feed", five);
        }
        call("end", bytes.length);
    }

    private void feed(String text) throws Exception {
        run.append("// ").append(text.replace('\n', '~')).append('\n');
        feed(text.chars().toArray());
    }

    private void go() throws Exception {
        boolean faulty = once(3);
        int wars = faulty ? 12 : 2;
        for (int k = 0; k < wars; k++) {
            String text = new Text(random, faulty && once(5)).war();
            for (int change = faulty ? below(3) : 0; change > 0; change--) {
                text = changed(text);
            }
            feed(text.length() > 1600 ? text.substring(0, 1600) : text);
            call("war");
            call("fault", 0);
            call("fault", 1);
            askAll();
            for (int turn = 0; calls < 512 - (faulty ? 60 : 120) && turn < (faulty ? 3 : 80); turn++) {
                turn();
            }
        }
    }

    private String changed(String text) {
        if (text.isEmpty()) {
            return text;
        }
        String signs = " ;()[],+-*/%<>=0123456789abczA\n!\u00e9";
        int at = below(text.length());
        switch (below(5)) {
            case 0: return text.substring(0, at);
            case 1: return text.substring(0, at) + text.substring(at + 1);
            case 2: return text.substring(0, at) + text.charAt(at) + text.substring(at);
            case 3: return text.substring(0, at) + signs.charAt(below(signs.length())) + text.substring(at + 1);
            default: return text.substring(0, at) + signs.charAt(below(signs.length())) + text.substring(at);
        }
    }

    private void askAll() throws Exception {
        for (int what = -1; what <= 13; what++) {
            call("has", what);
        }
    }

    private void turn() throws Exception {
        int county = odd(Math.max(1, x.has(0)));
        int man = odd(Math.max(1, x.has(2)));
        switch (below(32)) {
            case 0: call("letter", odd(2), odd(7), odd(6)); break;
            case 1: call("county", county, odd(4)); break;
            case 2: call("way", county, odd(7)); break;
            case 3: call("man", man, odd(6)); break;
            case 4: call("known", man, county); break;
            case 5: call("later", man, once(2) ? odd(81) : odd(12), odd(4)); break;
            case 6: call("caught", man); break;
            case 7: call("filled"); break;
            case 8: call("round", man, odd(6)); break;
            case 9: call("lured", man, county); break;
            case 10: call("best", county, odd(41), odd(2)); break;
            case 11: call("marks"); break;
            case 12: call("staffed", once(2) ? odd(100) : odd(12)); break;
            case 13: see(); break;
            case 14: call("who", odd(3)); break;
            case 15: case 16: case 17: call("weeks", once(9) ? odd(101) : 1 + below(5)); break;
            case 18: case 19: call("chance", once(9) ? odd(101) : 1 + below(5)); break;
            case 20: call("pay", county, odd(1000)); break;
            case 21: call("guard", county, odd(10)); break;
            case 22: call("tell", man, county); break;
            case 23: call("undo"); break;
            case 24: call("seed", once(9) ? ODD[below(ODD.length)] : random.nextInt() & 0x7fffffff); break;
            case 25: call("kept", once(4) ? odd(60) : below(1 + x.has(9)), odd(4)); break;
            case 26: call("octet", odd(110)); break;
            case 27: call("status", odd(6)); break;
            case 28: call("has", odd(13)); break;
            case 29: image(); break;
            case 30: call("end", odd(20)); break;
            default: rounds(man); break;
        }
    }

    private void rounds(int man) throws Exception {
        for (int k = 0; k < 6; k++) {
            call("round", man, k);
        }
    }

    private void see() throws Exception {
        int[] rows = new int[2 * (once(9) ? below(18) : 1 + below(2))];
        for (int k = 0; k < rows.length; k++) {
            rows[k] = once(30) ? below(256) : below(k % 2 == 0 ? 6 : 2);
        }
        feed(once(15) ? java.util.Arrays.copyOf(rows, rows.length + 1) : rows);
        call("see");
        call("who", 0);
    }

    private void image() throws Exception {
        int[] image = new int[(int) call("image")];
        List<Integer> told = new ArrayList<>();
        for (int k = 0; k < image.length; k++) {
            image[k] = k < 30 || once(4) ? (int) call("octet", k) : x.octet(k);
            told.add(image[k]);
        }
        run.append("// image ").append(told).append('\n');
        if (once(2)) {
            return;
        }
        for (int change = below(4); change > 0; change--) {
            int k = below(image.length);
            image = Check.with(image, k, once(3) ? below(256) : (image[k] + below(7) - 3) & 255);
        }
        if (once(20)) {
            image[image.length - 1] ^= 1;
        }
        feed(once(20) ? java.util.Arrays.copyOf(image, image.length + 1) : image);
        call("on");
        call("has", 3);
    }

    /** Texts of wars. */
    private static final class Text {
        private final Random random;
        private final boolean loose;
        private final StringBuilder text = new StringBuilder();

        Text(Random random, boolean loose) {
            this.random = random;
            this.loose = loose;
        }

        private int below(int n) {
            return random.nextInt(n);
        }

        private int number(int least, int most) {
            return loose && below(25) == 0 ? most + 1 : least + below(most - least + 1);
        }

        private static String name(int k) {
            return new String[] {"a", "bb", "cod", "dora", "ends", "fulham", "g", "zz"}[k];
        }

        private String man(int k) {
            return new String[] {"joe", "sam", "m", "n", "o", "willie", "x"}[k];
        }

        String war() {
            int counties = 2 + below(loose ? 7 : 6);
            for (int c = 0; c < counties; c++) {
                text.append("county ").append(name(c)).append(" quota ").append(number(0, below(2) == 0 ? 20 : 3))
                    .append(" pays ").append(number(0, 999)).append("\n guard ").append(number(0, 9)).append(';');
            }
            boolean[][] told = new boolean[8][8];
            for (int k = below(13); k >= 0 && counties > 1; k--) {
                int from = below(counties);
                int to = below(counties);
                if (loose && below(20) == 0 || from != to && !told[from][to]) {
                    text.append("rail ").append(name(from)).append(" to ").append(name(to)).append(" weeks ")
                        .append(number(1, below(2) == 0 ? 2 : 9)).append(" ; ");
                    told[from][to] = told[to][from] = true;
                }
            }
            int men = below(9) == 0 ? 0 : 1 + below(loose ? 7 : 6);
            int kinds = below(3) == 0 ? 1 + below(4) : 64;
            for (int k = 0; k < men; k++) {
                String name = loose && below(20) == 0 ? name(0) : man(k);
                text.append("man ").append(name).append(" at ").append(name(below(counties))).append(" signs ")
                    .append(below(kinds)).append(';');
            }
            if (below(2) == 0) {
                text.append("jumps ");
                test(loose ? 8 : below(8) == 0 ? 7 : 2, false);
                text.append(';');
            }
            if (below(2) == 0) {
                text.append("likes ");
                sum(loose ? 8 : below(8) == 0 ? 7 : 3, true);
                text.append(';');
            }
            if (below(2) == 0) {
                text.append("post ").append(below(3) == 0 ? 0 : number(0, 9)).append(';');
            }
            return text.toString();
        }

        private void test(int depth, boolean likes) {
            both(depth, likes);
            for (; below(5) == 0;) {
                text.append(" or ");
                both(depth, likes);
            }
        }

        private void both(int depth, boolean likes) {
            fact(depth, likes);
            for (; below(5) == 0;) {
                text.append(" and ");
                fact(depth, likes);
            }
        }

        private void fact(int depth, boolean likes) {
            switch (depth > 0 ? below(6) : 5) {
                case 0:
                    text.append(" not ");
                    fact(depth - 1, likes);
                    break;
                case 1:
                    text.append('[');
                    test(depth - 1, likes);
                    text.append(']');
                    break;
                case 2:
                    text.append(" all ");
                    break;
                default:
                    sum(depth, likes);
                    text.append("<>=".charAt(below(3)));
                    sum(depth, likes);
                    break;
            }
        }

        private void sum(int depth, boolean likes) {
            part(depth, likes);
            for (; below(5) < 2 && text.length() < 1500;) {
                text.append("+-*/%".charAt(below(5)));
                part(depth, likes);
            }
        }

        private void part(int depth, boolean likes) {
            switch (depth > 0 && text.length() < 1300 ? below(9) : 4 + below(5)) {
                case 0:
                    text.append('(');
                    sum(depth - 1, likes);
                    text.append(')');
                    break;
                case 1:
                case 2:
                    text.append(below(2) == 0 ? " min(" : " max (");
                    sum(depth - 1, likes);
                    text.append(',');
                    sum(depth - 1, likes);
                    text.append(')');
                    break;
                case 3:
                    text.append(" if(");
                    test(depth - 1, likes);
                    text.append(',');
                    sum(depth - 1, likes);
                    text.append(',');
                    sum(depth - 1, likes);
                    text.append(')');
                    break;
                case 4:
                    text.append(' ').append(below(3) == 0 ? below(10000) : below(9)).append(' ');
                    break;
                default:
                    String[] asked = {"guard", "pays", "names", "purse", "week", "quota", "far", "pays"};
                    text.append(' ').append(asked[below(likes || loose && below(20) == 0 ? 8 : 5)]).append(' ');
                    break;
            }
        }
    }
}
