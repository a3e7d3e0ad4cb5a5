import java.io.IOException;
import java.lang.reflect.InvocationTargetException;
import java.lang.reflect.Method;
import java.lang.reflect.Modifier;
import java.nio.file.Files;
import java.nio.file.Path;
import java.util.regex.Matcher;
import java.util.regex.Pattern;

/** The examples of README.md: each line's call answers what its comment begins with. */
public final class ReadmeTest {
    private static final String ANSWER = ";\\s*// (-?\\d+|true|false|nothing): .*";
    private static final Pattern CALL = Pattern.compile("x\\.(\\w+)\\(([^)]*)\\)" + ANSWER);
    private static final Pattern READ = Pattern.compile("readPlan\\(x, \"([^\"]*)\"\\)" + ANSWER);

    private static SignalProofs x;

    public static void main(String[] args) throws IOException, ReflectiveOperationException {
        boolean inExample = false;
        int examples = 0;
        for (String line : Files.readAllLines(Path.of("README.md"))) {
            if (line.startsWith("```")) {
                inExample = line.equals("```java");
                examples += inExample ? 1 : 0;
            } else if (inExample) {
                doLine(line);
            }
        }
        Check.due("examples in README.md", examples, 3);
        everyCallIsNamed();
        Check.end();
    }

    private static void doLine(String line) throws ReflectiveOperationException {
        Matcher call = CALL.matcher(line);
        Matcher read = READ.matcher(line);
        if (line.equals("SignalProofs x = new SignalProofs();")) {
            x = new SignalProofs();
        } else if (call.matches()) {
            Check.due(line, answer(call.group(1), call.group(2)), call.group(3));
        } else if (read.matches()) {
            Check.due(line, String.valueOf(Make.read(x, read.group(1))), read.group(2));
        } else {
            Check.due("a line of an example", line, "a call and its answer");
        }
    }

    private static String answer(String name, String list) throws ReflectiveOperationException {
        String[] words = list.isEmpty() ? new String[0] : list.split(", ");
        Object[] numbers = new Object[words.length];
        for (int k = 0; k < words.length; k++) {
            numbers[k] = Integer.valueOf(words[k]);
        }
        for (Method m : SignalProofs.class.getMethods()) {
            if (m.getName().equals(name)) {
                try {
                    Object answer = m.invoke(x, numbers);
                    return answer == null ? "nothing" : answer.toString();
                } catch (InvocationTargetException e) {
                    return e.getCause().toString();
                }
            }
        }
        return "no such call";
    }

    private static void everyCallIsNamed() throws IOException {
        String text = Files.readString(Path.of("README.md"));
        for (Method m : SignalProofs.class.getDeclaredMethods()) {
            if (Modifier.isPublic(m.getModifiers())) {
                Check.due("README.md names " + m.getName(), text.contains("`" + m.getName() + "("), true);
            }
        }
    }
}
