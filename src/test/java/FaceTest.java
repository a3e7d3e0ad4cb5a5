import java.lang.reflect.Constructor;
import java.lang.reflect.Field;
import java.lang.reflect.InvocationTargetException;
import java.lang.reflect.Method;
import java.lang.reflect.Modifier;
import java.util.Arrays;
import java.util.TreeSet;
import java.util.stream.Collectors;

/** The public face is the document's and no more, and odd arguments make it throw nothing else. */
public final class FaceTest {
    private static final String[] FACE = {
        "void begin(int) NegativeArraySizeException,IllegalArgumentException",
        "boolean clash(int,int,int) ArrayIndexOutOfBoundsException",
        "boolean least(int,int) ArrayIndexOutOfBoundsException",
        "boolean most(int,int) ArrayIndexOutOfBoundsException",
        "boolean unit(int) ", "int read() ", "int program() ", "boolean call(int,int) ", "boolean plan(int,int) ",
        "int second() ", "int told(int) ", "int shown(int) ", "int prove(int) ", "int states() ", "int row(int,int) ",
        "int longest(int) ", "int ring(int) ", "boolean answered() ", "boolean same(int) ",
        "int from(long,long,int) ",
    };
    private static final int[] NUMBERS = {
        Integer.MIN_VALUE, -1, 0, 1, 2, 5, 6, 15, 16, 31, 32, 60, 100, 400, 401, Integer.MAX_VALUE,
    };

    public static void main(String[] args) throws IllegalAccessException {
        members();
        innerMethodNames();
        oddArguments();
        Check.end();
    }

    private static boolean isPrivate(int modifiers) {
        return Modifier.isPrivate(modifiers);
    }

    private static String names(Class<?>[] classes) {
        return Arrays.stream(classes).map(Class::getSimpleName).collect(Collectors.joining(","));
    }

    private static void members() {
        Class<SignalProofs> c = SignalProofs.class;
        Check.due("public final class", c.getModifiers(), Modifier.PUBLIC | Modifier.FINAL);
        TreeSet<String> methods = new TreeSet<>();
        for (Method m : c.getDeclaredMethods()) {
            if (!isPrivate(m.getModifiers())) {
                Check.due(m.getName() + " is public alone", m.getModifiers(), Modifier.PUBLIC);
                methods.add(m.getReturnType().getSimpleName() + " " + m.getName() + "("
                    + names(m.getParameterTypes()) + ") " + names(m.getExceptionTypes()));
            }
        }
        Check.due("methods", methods.toString(), new TreeSet<>(Arrays.asList(FACE)).toString());
        TreeSet<String> fields = new TreeSet<>();
        for (Field f : c.getDeclaredFields()) {
            if (!isPrivate(f.getModifiers())) {
                fields.add(Modifier.toString(f.getModifiers()) + " " + f.getType() + " " + f.getName());
            }
        }
        Check.due("fields", fields.toString(), "[public static final int BAD, public static final int NONE]");
        Check.due("BAD", SignalProofs.BAD, -1);
        Check.due("NONE", SignalProofs.NONE, -2);
        Constructor<?>[] constructors = c.getDeclaredConstructors();
        Check.due("constructors", constructors.length, 1);
        Check.due("constructor is public", constructors[0].getModifiers(), Modifier.PUBLIC);
        Check.due("constructor has no parameters", constructors[0].getParameterCount(), 0);
    }

    /** LANGUAGE.md, rule 1: no private method bears the name of a public one. */
    private static void innerMethodNames() {
        TreeSet<String> face = new TreeSet<>();
        for (String method : FACE) {
            face.add(method.substring(method.indexOf(' ') + 1, method.indexOf('(')));
        }
        for (Class<?> inner : SignalProofs.class.getDeclaredClasses()) {
            Check.due(inner + " is static", Modifier.isStatic(inner.getModifiers()), true);
            for (Method m : inner.getDeclaredMethods()) {
                Check.due(inner + " names a method " + m.getName(), face.contains(m.getName()), false);
            }
        }
    }

    private static void oddArguments() throws IllegalAccessException {
        int[] states = {0, 1, 2};
        for (int state : states) {
            for (Method m : SignalProofs.class.getDeclaredMethods()) {
                if (Modifier.isPublic(m.getModifiers())) {
                    oddCalls(m, state);
                }
            }
        }
    }

    private static void oddCalls(Method m, int state) throws IllegalAccessException {
        int count = m.getParameterCount();
        int all = (int) Math.pow(NUMBERS.length, count);
        SignalProofs x = prepared(state);
        for (int k = 0; k < all; k++) {
            Object[] arguments = new Object[count];
            int rest = k;
            for (int a = 0; a < count; a++) {
                int number = NUMBERS[rest % NUMBERS.length];
                rest /= NUMBERS.length;
                arguments[a] = m.getParameterTypes()[a] == long.class ? (Object) (long) number : (Object) number;
            }
            String thrown = "";
            try {
                m.invoke(x, arguments);
            } catch (InvocationTargetException e) {
                thrown = e.getCause().getClass().getSimpleName();
            }
            boolean promised = thrown.isEmpty() || names(m.getExceptionTypes()).contains(thrown);
            Check.due(m.getName() + Arrays.toString(arguments) + " throws " + thrown, promised, true);
        }
    }

    /** 0: a new object; 1: with a plan and a fault that was found; 2: with three plans and told events. */
    private static SignalProofs prepared(int state) {
        SignalProofs x = new SignalProofs();
        if (state == 0) {
            return x;
        }
        x.begin(state == 1 ? 2 : 6);
        String[] plans = state == 1 ? new String[] {"A1-2;B1-2"} : new String[] {"A1-2;BF1-2", "C1-1", "DE1-4;A3-3"};
        for (String plan : plans) {
            for (int k = 0; k < plan.length(); k++) {
                x.unit(plan.charAt(k));
            }
            x.read();
        }
        x.least(0, state == 1 ? 2 : 1);
        for (int k = 1; k <= 60; k += 2) {
            x.call(k % 2, k);
            x.plan(k % 3, k + 1);
        }
        x.prove(400);
        x.second();
        return x;
    }
}
