import java.lang.reflect.Constructor;
import java.lang.reflect.Field;
import java.lang.reflect.Method;
import java.lang.reflect.Modifier;
import java.util.Arrays;
import java.util.Set;
import java.util.TreeSet;

/** The class shows the document's face and nothing else, and keeps no static state. */
public final class FaceTests {
    private static final String INDEX = "IndexOutOfBoundsException";
    private static final String STATE = "IllegalStateException";
    private static final String ARGUMENT = "IllegalArgumentException";

    private static int wrong;

    private static void due(String what, Object got, Object want) {
        if (!got.equals(want)) {
            wrong++;
            System.out.println(what + ": " + got + ", due is " + want);
        }
    }

    private static String names(Class<?>[] classes) {
        StringBuilder text = new StringBuilder();
        for (Class<?> c : classes) {
            text.append(' ').append(c.getSimpleName());
        }
        return text.toString();
    }

    private static String line(String answer, String name, String parameters, String... thrown) {
        StringBuilder text = new StringBuilder(answer + " " + name + "(" + parameters + " )");
        for (String t : thrown) {
            text.append(' ').append(t);
        }
        return text.toString();
    }

    private static Set<String> document() {
        return new TreeSet<>(Arrays.asList(
                line("int", "function", " int", STATE, ARGUMENT),
                line("boolean", "factor", " int int int long", INDEX, ARGUMENT),
                line("boolean", "start", " int int long", INDEX, ARGUMENT),
                line("int", "add", " int int", INDEX, STATE),
                line("int", "times", " int int", INDEX, STATE),
                line("int", "convolve", " int int", INDEX, STATE),
                line("int", "weave", " int int", INDEX, STATE),
                line("int", "shift", " int int", INDEX, STATE, ARGUMENT),
                line("int", "sums", " int", INDEX, STATE),
                line("int", "derive", " int", INDEX, STATE),
                line("int", "value", " int int", INDEX),
                line("int", "singular", " int", INDEX, ARGUMENT),
                line("int", "guess", " int int int", INDEX, ARGUMENT),
                line("int", "rule", " int int int", INDEX),
                line("int", "least", " int int", INDEX, ARGUMENT),
                line("int", "differ", " int int", INDEX),
                line("boolean", "hangs", " int int", INDEX),
                line("int", "count", "")));
    }

    private static Set<String> face() {
        Set<String> lines = new TreeSet<>();
        for (Method m : HolonomicRows.class.getDeclaredMethods()) {
            if (!Modifier.isPrivate(m.getModifiers()) && !m.isSynthetic()) {
                due(m.getName() + " is public", m.getModifiers(), Modifier.PUBLIC);
                lines.add(line(m.getReturnType().getSimpleName(), m.getName(),
                        names(m.getParameterTypes())) + names(m.getExceptionTypes()));
            }
        }
        return lines;
    }

    private static Set<String> publicNames() {
        Set<String> names = new TreeSet<>();
        for (Method m : HolonomicRows.class.getDeclaredMethods()) {
            if (Modifier.isPublic(m.getModifiers())) {
                names.add(m.getName());
            }
        }
        return names;
    }

    private static void namesAreApart(Class<?> c) {
        for (Method m : c.getDeclaredMethods()) {
            if (Modifier.isPrivate(m.getModifiers()) && !m.isSynthetic()) {
                due(m.getName() + " bears a public name", publicNames().contains(m.getName()), false);
            }
        }
    }

    private static void noStaticState(Class<?> c) {
        for (Field f : c.getDeclaredFields()) {
            if (Modifier.isStatic(f.getModifiers()) && !f.isSynthetic()) {
                due(c.getName() + "." + f.getName() + " is final", Modifier.isFinal(f.getModifiers()), true);
            }
        }
    }

    public static void main(String[] args) {
        Class<?> c = HolonomicRows.class;
        due("class", c.getModifiers(), Modifier.PUBLIC | Modifier.FINAL);
        due("methods", face(), document());
        due("constructors", c.getDeclaredConstructors().length, 1);
        for (Constructor<?> made : c.getDeclaredConstructors()) {
            due("constructor", made.getModifiers(), Modifier.PUBLIC);
            due("its parameters", made.getParameterCount(), 0);
        }
        for (Field f : c.getDeclaredFields()) {
            due(f.getName() + " is private", Modifier.isPrivate(f.getModifiers()) || f.isSynthetic(), true);
        }
        namesAreApart(c);
        noStaticState(c);
        for (Class<?> inside : c.getDeclaredClasses()) {
            int seen = inside.getModifiers() & (Modifier.PUBLIC | Modifier.PROTECTED);
            due(inside.getName() + " is private or package-visible", seen, 0);
            namesAreApart(inside);
            noStaticState(inside);
        }
        System.out.println(wrong == 0 ? "the face is as due" : wrong + " things are not as due");
        if (wrong != 0) {
            System.exit(1);
        }
    }
}
