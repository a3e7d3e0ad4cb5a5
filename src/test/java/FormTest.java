import com.sun.management.ThreadMXBean;
import java.io.IOException;
import java.lang.management.ManagementFactory;
import java.lang.reflect.Array;
import java.lang.reflect.Field;
import java.lang.reflect.Method;
import java.lang.reflect.Modifier;
import java.nio.file.Files;
import java.nio.file.Path;
import java.util.ArrayList;
import java.util.Collections;
import java.util.IdentityHashMap;
import java.util.List;
import java.util.Set;
import java.util.regex.Matcher;
import java.util.regex.Pattern;

/** What can be counted of the rules of LANGUAGE.md, and the room that objects and calls take. */
public final class FormTest {
    private static final Set<String> IMPORTS = Set.of(
        "java.util.Arrays", "java.util.ArrayList", "java.util.List", "java.util.Iterator",
        "java.util.NoSuchElementException");
    private static final Set<String> LIBRARY = Set.of(
        "Arrays.fill", "Arrays.copyOf", "Arrays.copyOfRange", "System.arraycopy",
        "Math.min", "Math.max", "Math.abs", "Math.floorDiv", "Math.floorMod", "Integer.bitCount", "Long.bitCount");
    private static final Set<String> THROWN = Set.of(
        "NegativeArraySizeException", "IllegalArgumentException", "ArrayIndexOutOfBoundsException");
    private static final String[] FORBIDDEN = {
        "->", "::", "\\btry\\b", "\\bcatch\\b", "\\bfinally\\b", "\\bassert\\b", "\\bsynchronized\\b", "\\bstatic \\{",
        "Exact\\(", "\\bpackage\\b", "\\bequals\\(", "\\bhashCode\\(", "\\btoString\\(", "\\bnative\\b", "\\bvar\\b",
        "\\bdouble\\b", "\\bfloat\\b", "\\bprotected\\b", "\\bnew [A-Z]\\w*\\([^)]*\\) \\{",
    };

    public static void main(String[] args) throws IOException, IllegalAccessException {
        String source = Files.readString(Path.of("src/main/java/SignalProofs.java"));
        String code = withoutWords(source);
        words(code);
        library(code);
        throwing(code);
        lengths(code);
        classes();
        room();
        allocation();
        Check.end();
    }

    /** The source with its comments and texts taken out, line for line. */
    private static String withoutWords(String source) {
        Matcher m = Pattern.compile("/\\*.*?\\*/|//[^\n]*|\"[^\"\n]*\"", Pattern.DOTALL).matcher(source);
        return m.replaceAll(found -> found.group().replaceAll("[^\n]", ""));
    }

    private static void words(String code) {
        for (String word : FORBIDDEN) {
            Check.due("rules 1 to 6: " + word, Pattern.compile(word).matcher(code).find(), false);
        }
    }

    private static void library(String code) {
        Matcher imported = Pattern.compile("import ([\\w.*]+);").matcher(code);
        while (imported.find()) {
            Check.due("rule 4: import " + imported.group(1), IMPORTS.contains(imported.group(1)), true);
        }
        List<String> own = new ArrayList<>();
        for (Class<?> c : SignalProofs.class.getDeclaredClasses()) {
            own.add(c.getSimpleName());
        }
        Matcher used = Pattern.compile("\\b([A-Z][A-Za-z]*[a-z][A-Za-z]*)\\.(\\w+)").matcher(code);
        while (used.find()) {
            boolean allowed = own.contains(used.group(1)) || LIBRARY.contains(used.group());
            Check.due("rule 4: " + used.group(), allowed, true);
        }
    }

    private static void throwing(String code) {
        Matcher m = Pattern.compile("\\bthrow (new (\\w+)\\(\\))?").matcher(code);
        int count = 0;
        while (m.find()) {
            Check.due("rule 6: " + m.group(), m.group(2) != null && THROWN.contains(m.group(2)), true);
            count++;
        }
        Check.due("rule 6: throw statements", count, 6);
        Matcher made = Pattern.compile("new (SignalProofs|Crossing|PlanText|Diary|Machine|Proof|WaitGraph)\\(")
            .matcher(code.substring(code.indexOf("public void begin")));
        int inside = 0;
        while (made.find()) {
            inside++;
        }
        Check.due("rule 12: objects made outside the face's constructor, by a Proof alone", inside, 2);
    }

    private static void lengths(String code) {
        String[] lines = code.split("\n");
        Pattern head = Pattern.compile("( {4}| {8})(?!(?:if|for|while|switch|do)\\b)\\w[\\w\\[\\] ]*\\(.*\\{");
        int methods = 0;
        for (int k = 0; k < lines.length; k++) {
            Matcher m = head.matcher(lines[k]);
            if (m.matches() && !lines[k].contains(" class ")) {
                int end = k;
                while (end < lines.length && !lines[end].equals(m.group(1) + "}")) {
                    end++;
                }
                Check.due("rule 11: at most 60 lines: " + lines[k].trim(), end - k < 60, true);
                methods++;
            }
        }
        Check.due("rule 11: methods were looked at", methods > 60, true);
    }

    private static List<Class<?>> allClasses() {
        List<Class<?>> all = new ArrayList<>(List.of(SignalProofs.class.getDeclaredClasses()));
        all.add(SignalProofs.class);
        return all;
    }

    private static void classes() {
        Check.due("rule 11: at most 12 classes", allClasses().size() <= 12, true);
        for (Class<?> c : allClasses()) {
            int fields = 0;
            for (Field f : c.getDeclaredFields()) {
                boolean isStatic = Modifier.isStatic(f.getModifiers());
                fields += isStatic ? 0 : 1;
                Check.due("rule 3: type of " + f, isAllowed(f.getType()), true);
                boolean constant = Modifier.isFinal(f.getModifiers()) && f.getType().isPrimitive();
                Check.due("rule 5: static fields are constants: " + f, !isStatic || constant, true);
            }
            Check.due("rule 11: at most 20 fields: " + c, fields <= 20, true);
            for (Method m : c.getDeclaredMethods()) {
                Check.due("rule 11: at most 7 parameters: " + m, m.getParameterCount() <= 7, true);
            }
        }
    }

    private static boolean isAllowed(Class<?> type) {
        return type.isArray() ? type.getComponentType().isPrimitive() : type.isPrimitive() || allClasses().contains(type);
    }

    /** 800 objects of 9,000 fit into a room of 7.3 million, more than a run of 512 calls can make. */
    private static void room() throws IllegalAccessException {
        SignalProofs x = new SignalProofs();
        long[] fresh = count(x);
        Check.due("rule 12: objects and arrays: " + fresh[0], fresh[0] <= 60, true);
        Check.due("rule 12: fields and elements: " + fresh[1], fresh[1] <= 9000, true);
        use(x);
        long[] used = count(x);
        Check.due("rule 12: objects that are kept", used[0], fresh[0]);
        Check.due("rule 12: elements that are kept", used[1], fresh[1]);
    }

    private static long[] count(Object root) throws IllegalAccessException {
        Set<Object> seen = Collections.newSetFromMap(new IdentityHashMap<>());
        List<Object> open = new ArrayList<>(List.of(root));
        seen.add(root);
        long elements = 0;
        while (!open.isEmpty()) {
            Object o = open.remove(open.size() - 1);
            if (o.getClass().isArray()) {
                elements += Array.getLength(o);
                continue;
            }
            for (Field f : o.getClass().getDeclaredFields()) {
                if (!Modifier.isStatic(f.getModifiers())) {
                    elements++;
                    f.setAccessible(true);
                    if (!f.getType().isPrimitive() && seen.add(f.get(o))) {
                        open.add(f.get(o));
                    }
                }
            }
        }
        return new long[] {seen.size(), elements};
    }

    /** Every call but begin, on a crossing of many states. */
    private static void use(SignalProofs x) {
        x.begin(3);
        Make.read(x, "A1-9;B2-4");
        Make.read(x, "B2-4;AC1-9");
        x.clash(0, 1, 3);
        x.least(0, 1);
        x.most(0, 31);
        look(x);
    }

    private static void look(SignalProofs x) {
        x.unit('A');
        x.read();
        x.prove(400);
        for (int k = 1; k < 20; k++) {
            x.call(k % 3, x.told(0) + 1);
            x.plan(k % 2, x.told(0) + 2);
            x.second();
            x.told(k);
            x.shown(k % 3);
            x.row(k, 0);
            x.longest(k % 3);
            x.ring(k % 3);
            x.same(100);
            x.from(k, 3 * k, k);
        }
        x.answered();
        x.states();
        x.program();
    }

    /** No call makes anything: else a proof's some 2,000 seconds would show it. */
    private static void allocation() {
        ThreadMXBean thread = (ThreadMXBean) ManagementFactory.getThreadMXBean();
        SignalProofs x = new SignalProofs();
        use(x);
        look(x);
        long before = thread.getCurrentThreadAllocatedBytes();
        for (int k = 0; k < 10; k++) {
            look(x);
        }
        long bytes = thread.getCurrentThreadAllocatedBytes() - before;
        Check.due("rule 12: calls make nothing, but " + bytes + " bytes were taken", bytes < 10000, true);
    }
}
