import java.io.IOException;
import java.lang.reflect.Constructor;
import java.lang.reflect.Field;
import java.lang.reflect.Method;
import java.lang.reflect.Modifier;
import java.nio.file.Files;
import java.nio.file.Path;
import java.util.ArrayList;
import java.util.Arrays;
import java.util.List;
import java.util.TreeSet;
import java.util.regex.Matcher;
import java.util.regex.Pattern;

/** The face of the document and the rules of LANGUAGE.md that can be seen from outside. */
public final class FaceTest {
    private static final Check CHECK = new Check("FaceTest");

    private static final String[] METHODS = {
        "int hole()", "int run(int,int,int)", "int end(int)", "int recovered(int,int,int)", "int mark(int,int)",
        "int wrong(int)", "int isWrong(int,int)", "int layer(int,int,int,int)", "int code(int,int)",
        "int rock(int,int,int)", "int agree(int)", "int sample(int,int,int)", "int left(int)", "int batch()",
        "int put(int,int)", "int standard(int,int,int)", "int blank(int)", "int twice(int,int)", "int law(int,int)",
        "int result(int,int,int)", "int sound(int)", "int fault(int)", "int swap(int)", "int exchange(int,int)",
        "int about(int,int,int)", "int grade(int,int)", "long composite(int,int,int,int,int)", "int cost(int,int)",
        "int matched(int,int,int)", "int count(int)", "long digest()"
    };

    private static final String[] FORBIDDEN = {
        "\\bthrow\\b", "\\bthrows\\b", "\\btry\\b", "\\bcatch\\b", "\\bsynchronized\\b", "\\bassert\\b", "->", "::",
        "\\bimport\\b", "\\bpackage\\b", "Exact\\b", "\\bprotected\\b", "\\bthreads?\\b", "\\bSystem\\b(?!\\.arraycopy)"
    };

    public static void main(String[] args) throws IOException {
        face();
        constants();
        nested();
        source(Files.readString(Path.of("src/main/java/CoreShed.java")));
        CHECK.finish();
    }

    private static void face() {
        CHECK.holds("public and final", (CoreShed.class.getModifiers() & (Modifier.PUBLIC | Modifier.FINAL))
            == (Modifier.PUBLIC | Modifier.FINAL));
        TreeSet<String> open = new TreeSet<>();
        for (Method m : CoreShed.class.getDeclaredMethods()) {
            if (!Modifier.isPrivate(m.getModifiers())) {
                open.add(signature(m));
                CHECK.holds("public, not static: " + m, Modifier.isPublic(m.getModifiers())
                    && !Modifier.isStatic(m.getModifiers()));
            }
        }
        CHECK.holds("the methods " + open, open.equals(new TreeSet<>(Arrays.asList(METHODS))));
        Constructor<?>[] made = CoreShed.class.getDeclaredConstructors();
        CHECK.due("constructors", made.length, 1);
        CHECK.holds("its constructor", Modifier.isPublic(made[0].getModifiers()) && made[0].getParameterCount() == 0);
    }

    private static String signature(Method m) {
        List<String> types = new ArrayList<>();
        for (Class<?> type : m.getParameterTypes()) {
            types.add(type.getName());
        }
        return m.getReturnType().getName() + " " + m.getName() + "(" + String.join(",", types) + ")";
    }

    private static void constants() {
        TreeSet<String> open = new TreeSet<>();
        for (Field f : CoreShed.class.getDeclaredFields()) {
            int is = f.getModifiers();
            if (!Modifier.isPrivate(is)) {
                open.add(f.getType() + " " + f.getName());
            }
            CHECK.holds("static fields are final: " + f, !Modifier.isStatic(is) || Modifier.isFinal(is));
        }
        CHECK.holds("the constants " + open, open.equals(new TreeSet<>(
            List.of("int NONE", "int UNKNOWN", "int OUTSIDE", "int STATE", "int FULL"))));
        CHECK.due("NONE", CoreShed.NONE, -1);
        CHECK.due("UNKNOWN", CoreShed.UNKNOWN, -101);
        CHECK.due("OUTSIDE", CoreShed.OUTSIDE, -102);
        CHECK.due("STATE", CoreShed.STATE, -103);
        CHECK.due("FULL", CoreShed.FULL, -104);
    }

    private static void nested() {
        TreeSet<String> face = new TreeSet<>();
        for (String method : METHODS) {
            face.add(method.substring(method.indexOf(' ') + 1, method.indexOf('(')));
        }
        List<Class<?>> classes = new ArrayList<>(List.of(CoreShed.class.getDeclaredClasses()));
        CHECK.holds("some twelve classes at most", classes.size() < 12);
        for (Class<?> type : classes) {
            CHECK.holds("static: " + type, Modifier.isStatic(type.getModifiers()));
            CHECK.holds("not open: " + type, (type.getModifiers() & (Modifier.PUBLIC | Modifier.PROTECTED)) == 0);
            for (Method m : type.getDeclaredMethods()) {
                CHECK.holds("not named as one of the face: " + m, !face.contains(m.getName()));
                CHECK.holds("seven parameters at most: " + m, m.getParameterCount() <= 7);
            }
        }
        for (Method m : CoreShed.class.getDeclaredMethods()) {
            CHECK.holds("no private one named as one of the face: " + m,
                !Modifier.isPrivate(m.getModifiers()) || !face.contains(m.getName()));
        }
    }

    private static void source(String text) {
        String code = text.replaceAll("(?s)/\\*.*?\\*/", "").replaceAll("//[^\n]*", "");
        for (String rule : FORBIDDEN) {
            Matcher found = Pattern.compile(rule).matcher(code);
            CHECK.holds("the source has no " + rule, !found.find());
        }
        CHECK.holds("characters 0 to 127", text.chars().allMatch(c -> c < 128));
    }
}
