import java.io.IOException;
import java.lang.reflect.Method;
import java.lang.reflect.Modifier;
import java.nio.file.Files;
import java.nio.file.Path;
import java.util.List;
import java.util.TreeSet;
import java.util.regex.Matcher;
import java.util.regex.Pattern;

/**
 * The example of README.md, made call by call: each line answers what it says, and every call of the face is
 * shown. A line is 'shed.call(numbers); // answer', where the answer is a number or a constant of the face.
 */
public final class ReadmeTest {
    private static final Check CHECK = new Check("ReadmeTest");
    private static final Pattern CALL = Pattern.compile("shed\\.(\\w+)\\(([-\\d, ]*)\\); +// (-?\\d+|[A-Z]+)\\b.*");
    private static final String NEW = "CoreShed shed = new CoreShed();";
    /** An object is used for at most 512 calls. */
    private static final int MOST_CALLS = 512;

    private final TreeSet<String> shown = new TreeSet<>();
    private CoreShed shed;
    private int calls;

    public static void main(String[] args) throws IOException, ReflectiveOperationException {
        ReadmeTest test = new ReadmeTest();
        test.read(Files.readAllLines(Path.of("README.md")));
        test.showsAll();
        CHECK.finish();
    }

    private void read(List<String> lines) throws ReflectiveOperationException {
        boolean inExample = false;
        for (String line : lines) {
            if (line.startsWith("```")) {
                inExample = line.equals("```java");
            } else if (inExample && !line.isBlank() && !line.startsWith("// ")) {
                make(line);
            }
        }
        CHECK.holds("within the calls that are promised: " + calls, calls > 0 && calls <= MOST_CALLS);
    }

    private void make(String line) throws ReflectiveOperationException {
        if (line.equals(NEW)) {
            shed = new CoreShed();
            return;
        }
        Matcher call = CALL.matcher(line);
        boolean isCall = call.matches() && shed != null;
        CHECK.holds("a call and its answer: " + line, isCall);
        if (isCall) {
            CHECK.due(line, answer(call.group(1), call.group(2)), number(call.group(3)));
            shown.add(call.group(1));
            calls++;
        }
    }

    private long answer(String name, String arguments) throws ReflectiveOperationException {
        String[] texts = arguments.isBlank() ? new String[0] : arguments.split(", ");
        Object[] numbers = new Object[texts.length];
        Class<?>[] types = new Class<?>[texts.length];
        for (int i = 0; i < texts.length; i++) {
            numbers[i] = Integer.valueOf(texts[i]);
            types[i] = int.class;
        }
        return ((Number) CoreShed.class.getMethod(name, types).invoke(shed, numbers)).longValue();
    }

    private static long number(String text) throws ReflectiveOperationException {
        return Character.isLetter(text.charAt(0)) ? CoreShed.class.getField(text).getInt(null) : Long.parseLong(text);
    }

    private void showsAll() {
        for (Method m : CoreShed.class.getDeclaredMethods()) {
            if (Modifier.isPublic(m.getModifiers())) {
                CHECK.holds("the example shows " + m.getName(), shown.contains(m.getName()));
            }
        }
    }
}
