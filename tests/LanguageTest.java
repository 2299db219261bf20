import java.lang.reflect.Constructor;
import java.lang.reflect.Field;
import java.lang.reflect.Method;
import java.lang.reflect.Modifier;
import java.nio.file.Files;
import java.nio.file.Path;
import java.util.Arrays;
import java.util.HashMap;
import java.util.HashSet;
import java.util.Map;
import java.util.Set;
import java.util.TreeSet;
import java.util.regex.Matcher;
import java.util.regex.Pattern;

/** What of ../shared/LANGUAGE.md can be seen from the source and from the compiled class. */
public final class LanguageTest {
    private static final String FACE = "boolean end(int);boolean guard(int,int);boolean on();boolean pay(int,int);"
        + "boolean seed(int);boolean tell(int,int);boolean undo();int best(int,int,int);int caught(int);int chance(int);"
        + "int county(int,int);int fault(int);int feed(int,int,int,int,int);int filled();int has(int);int image();"
        + "int kept(int,int);int known(int,int);int later(int,int,int);int letter(int,int,int);int lured(int,int);"
        + "int man(int,int);int marks();int octet(int);int round(int,int);int see();int staffed(int);int status(int);"
        + "int war();int way(int,int);int weeks(int);int who(int);";

    private LanguageTest() {
    }

    public static void main(String[] args) throws Exception {
        words(Files.readString(Path.of("src/main/java/NineTimes.java")));
        face();
        int classes = 1;
        shape(NineTimes.class);
        for (Class<?> inside : NineTimes.class.getDeclaredClasses()) {
            classes++;
            Check.due("static " + inside, Modifier.isStatic(inside.getModifiers()), true);
            Check.due("not public " + inside, Modifier.isPublic(inside.getModifiers()), false);
            shape(inside);
        }
        Check.due("some twelve classes", classes <= 12, true);
        Check.finish();
    }

    private static void words(String source) {
        String code = source.replaceAll("//[^\n]*", "").replaceAll("'[^']*'", "0").replaceAll("\"[^\"]*\"", "0");
        String never = "\\b(throw|throws|try|catch|finally|synchronized|assert|import|package|float|double|volatile|native|"
            + "transient|Object|Exception|System|Thread|Random|Runtime|equals|hashCode|toString|\\w+Exact)\\b|->|::|@";
        Matcher found = Pattern.compile(never).matcher(code);
        while (found.find()) {
            Check.due("there is " + found.group(), true, false);
        }
        Check.due("one public class", code.split("\\bclass\\b").length - 1 <= 12, true);
        for (char c : source.toCharArray()) {
            if (c > 126 || c < 32 && c != '\n') {
                Check.due("a sign " + (int) c, true, false);
            }
        }
        int length = 0;
        for (String line : code.split("\n")) {
            Check.due("line " + line, line.length() <= 130, true);
            length = line.matches("(    |        )(private|public|static|final|int|boolean|void|long).*\\{") ? 0 : length + 1;
            if (line.matches("(    |        )\\}")) {
                Check.due("a method of " + length + " lines", length <= 60, true);
            }
        }
    }

    private static void face() {
        Set<String> methods = new TreeSet<>();
        for (Method m : NineTimes.class.getDeclaredMethods()) {
            if (!Modifier.isPrivate(m.getModifiers())) {
                Check.due("public " + m, Modifier.isPublic(m.getModifiers()), true);
                String told = Arrays.toString(m.getParameterTypes()).replaceAll("[\\[\\] ]", "");
                methods.add(m.getReturnType() + " " + m.getName() + "(" + told + ");");
            }
        }
        String all = String.join("", methods);
        Check.due("the face: " + all, all.equals(FACE), true);
        Constructor<?>[] made = NineTimes.class.getDeclaredConstructors();
        Check.due("one constructor", made.length == 1 && Modifier.isPublic(made[0].getModifiers()), true);
        Check.due("final", Modifier.isFinal(NineTimes.class.getModifiers()), true);
        for (Field f : NineTimes.class.getDeclaredFields()) {
            if (!Modifier.isPrivate(f.getModifiers())) {
                Check.due("the constant " + f, f.getName().equals("NONE"), true);
            }
        }
    }

    private static void shape(Class<?> c) {
        Set<String> faces = new HashSet<>();
        for (Method m : NineTimes.class.getDeclaredMethods()) {
            if (Modifier.isPublic(m.getModifiers())) {
                faces.add(m.getName());
            }
        }
        Map<String, Integer> names = new HashMap<>();
        for (Method m : c.getDeclaredMethods()) {
            names.merge(m.getName(), 1, Integer::sum);
            Check.due("seven parameters " + m, m.getParameterCount() <= 7, true);
            boolean publicOne = c == NineTimes.class && Modifier.isPublic(m.getModifiers());
            Check.due("a name of the face " + m, faces.contains(m.getName()), publicOne);
        }
        int fields = 0;
        for (Field f : c.getDeclaredFields()) {
            if (Modifier.isStatic(f.getModifiers())) {
                Check.due("final " + f, Modifier.isFinal(f.getModifiers()), true);
                boolean plain = f.getType() == int.class || f.getType() == long.class || f.getType() == String.class;
                Check.due("constant " + f, plain, true);
            } else {
                fields++;
            }
        }
        Check.due("some twenty fields " + c, fields <= 20, true);
    }
}
