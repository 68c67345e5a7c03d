import java.lang.reflect.Constructor;
import java.lang.reflect.Field;
import java.lang.reflect.Method;
import java.lang.reflect.Modifier;
import java.util.ArrayList;
import java.util.Arrays;
import java.util.List;
import java.util.Set;
import java.util.TreeSet;

/** The public face: its constants, its constructor and its methods, and nothing else. */
public final class FaceTest {
    private static final Due due = new Due("FaceTest");
    private static final String A = " IllegalArgumentException";
    private static final String S = " IllegalStateException";
    private static final String B = " IndexOutOfBoundsException";

    public static void main(String[] args) {
        due.is("NONE", FunnelFold.NONE, -1);
        due.is("EVENTS", FunnelFold.EVENTS, 0);
        due.is("SESSIONS", FunnelFold.SESSIONS, 1);
        due.is("DEPTH", FunnelFold.DEPTH, 2);
        due.is("modifiers", FunnelFold.class.getModifiers(), Modifier.PUBLIC | Modifier.FINAL);
        due.same("methods", methods().toString(), methodsOfTheDocument().toString());
        due.same("constants", constants().toString(), "[DEPTH, EVENTS, NONE, SESSIONS]");
        due.same("constructors", constructors().toString(), "[public FunnelFold()]");
        due.same("classes inside that are seen or are not static", classesInside().toString(), "[]");
        due.same("private methods with the name of a public one", privateNamesakes().toString(), "[]");
        due.same("static fields that are not final", staticState().toString(), "[]");
        due.end();
    }

    private static Set<String> methodsOfTheDocument() {
        return new TreeSet<>(Arrays.asList(
                "int event(3)" + A + S, "int merge(2)" + A, "int userOf(1)" + A, "int users(0)",
                "int events(0)", "int eventsOf(1)" + A, "int eventAt(2)" + A + B,
                "int gap(1)" + A, "int sessions(1)" + A, "int sessionEvents(2)" + A + B,
                "int sessionStart(2)" + A + B, "int sessionLength(2)" + A + B,
                "int step(1)" + A + S, "void clearFunnel(0)", "int window(1)" + A,
                "int depth(1)" + A, "int passed(1)" + B, "int fastest(1)" + A,
                "int cohort(1)" + A, "int retained(2)" + A, "int active(1)" + A,
                "int activeOnEach(2)" + A, "int ranked(2)" + A + B,
                "int closeDay(0)" + S, "int closedDays(0)", "int keptActive(1)" + B,
                "int keptNew(1)" + B, "int keptSessions(1)" + B));
    }

    private static Set<String> methods() {
        Set<String> found = new TreeSet<>();
        for (Method method : FunnelFold.class.getDeclaredMethods()) {
            if (!Modifier.isPrivate(method.getModifiers()) && !method.isSynthetic()) {
                found.add(told(method));
            }
        }
        return found;
    }

    private static String told(Method method) {
        StringBuilder text = new StringBuilder();
        text.append(method.getReturnType().getSimpleName()).append(' ').append(method.getName());
        text.append('(').append(method.getParameterCount()).append(')');
        for (Class<?> thrown : method.getExceptionTypes()) {
            text.append(' ').append(thrown.getSimpleName());
        }
        boolean plain = method.getModifiers() == Modifier.PUBLIC;
        for (Class<?> taken : method.getParameterTypes()) {
            plain &= taken == int.class;
        }
        return plain ? text.toString() : method.toString();
    }

    private static Set<String> constants() {
        Set<String> found = new TreeSet<>();
        int constant = Modifier.PUBLIC | Modifier.STATIC | Modifier.FINAL;
        for (Field field : FunnelFold.class.getDeclaredFields()) {
            if (!Modifier.isPrivate(field.getModifiers())) {
                boolean plain = field.getModifiers() == constant && field.getType() == int.class;
                found.add(plain ? field.getName() : field.toString());
            }
        }
        return found;
    }

    private static Set<String> constructors() {
        Set<String> found = new TreeSet<>();
        for (Constructor<?> made : FunnelFold.class.getDeclaredConstructors()) {
            found.add(made.toString());
        }
        return found;
    }

    private static Set<String> classesInside() {
        Set<String> found = new TreeSet<>();
        for (Class<?> inside : FunnelFold.class.getDeclaredClasses()) {
            int modifiers = inside.getModifiers();
            if (Modifier.isPublic(modifiers) || Modifier.isProtected(modifiers) || !Modifier.isStatic(modifiers)) {
                found.add(inside.toString());
            }
        }
        return found;
    }

    private static Set<String> privateNamesakes() {
        Set<String> names = new TreeSet<>();
        for (Method method : FunnelFold.class.getMethods()) {
            names.add(method.getName());
        }
        Set<String> found = new TreeSet<>();
        for (Class<?> each : allClasses()) {
            for (Method method : each.getDeclaredMethods()) {
                if (Modifier.isPrivate(method.getModifiers()) && names.contains(method.getName())) {
                    found.add(method.toString());
                }
            }
        }
        return found;
    }

    private static Set<String> staticState() {
        Set<String> found = new TreeSet<>();
        for (Class<?> each : allClasses()) {
            for (Field field : each.getDeclaredFields()) {
                if (Modifier.isStatic(field.getModifiers()) && !Modifier.isFinal(field.getModifiers())) {
                    found.add(field.toString());
                }
            }
        }
        return found;
    }

    private static List<Class<?>> allClasses() {
        List<Class<?>> all = new ArrayList<>(Arrays.asList(FunnelFold.class.getDeclaredClasses()));
        all.add(FunnelFold.class);
        return all;
    }
}
