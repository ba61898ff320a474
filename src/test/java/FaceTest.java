import java.lang.reflect.Constructor;
import java.lang.reflect.Field;
import java.lang.reflect.Method;
import java.lang.reflect.Modifier;
import java.util.Arrays;
import java.util.Set;
import java.util.TreeSet;

/** The public face: what the document lists, and no other member that is seen from outside. */
public final class FaceTest {
    private static final String OUT = "IndexOutOfBoundsException";
    private static final String ARGUMENT = "IllegalArgumentException";
    private static final String STATE = "IllegalStateException";
    private static final String UNSUPPORTED = "UnsupportedOperationException";

    private static final String[] METHODS = {
        "int page(int, int) " + list(ARGUMENT, OUT, STATE),
        "int shape(int, int) " + list(OUT, ARGUMENT, STATE, UNSUPPORTED),
        "void theme(int, int) " + list(ARGUMENT),
        "void set(int, int, int) " + list(OUT, ARGUMENT),
        "boolean unset(int, int) " + list(OUT, ARGUMENT),
        "int resolved(int, int) " + list(OUT, ARGUMENT),
        "int origin(int, int) " + list(OUT, ARGUMENT),
        "int binding(int) " + list(OUT),
        "int write(int, int, int) " + list(OUT, ARGUMENT, STATE),
        "int scale(int) " + list(OUT),
        "int lines(int) " + list(OUT),
        "int line(int, int, int) " + list(OUT),
        "int number(int, int) " + list(OUT),
        "int effect(int, int, int, int, int) " + list(OUT, ARGUMENT, STATE, UNSUPPORTED),
        "void amount(int, int) " + list(OUT, ARGUMENT),
        "int timing(int, int) " + list(OUT),
        "boolean click() " + list(),
        "boolean back() " + list(),
        "void jump(int) " + list(OUT),
        "void tick(int) " + list(ARGUMENT),
        "int state(int) " + list(),
        "int now(int, int) " + list(OUT, ARGUMENT),
        "int pixel(int, int) " + list(),
    };

    public static void main(String[] args) {
        theClass();
        methods();
        fields();
        Check.end();
    }

    private static void theClass() {
        int modifiers = SlideStage.class.getModifiers();
        Check.due("public and final", true, Modifier.isPublic(modifiers) && Modifier.isFinal(modifiers));
        Constructor<?>[] constructors = SlideStage.class.getDeclaredConstructors();
        Check.due("one constructor", 1, constructors.length);
        Check.due("it is public", true, Modifier.isPublic(constructors[0].getModifiers()));
        Check.due("it takes nothing", 0, constructors[0].getParameterCount());
        for (Class<?> inside : SlideStage.class.getDeclaredClasses()) {
            Check.due(inside + " is static", true, Modifier.isStatic(inside.getModifiers()));
            Check.due(inside + " is public", false, Modifier.isPublic(inside.getModifiers()));
        }
    }

    private static void methods() {
        Set<String> seen = new TreeSet<>();
        Set<String> names = new TreeSet<>();
        Set<String> hidden = new TreeSet<>();
        for (Method method : SlideStage.class.getDeclaredMethods()) {
            if (Modifier.isPrivate(method.getModifiers())) {
                hidden.add(method.getName());
            } else {
                seen.add(told(method));
                names.add(method.getName());
                Check.due(method + " is public", true, Modifier.isPublic(method.getModifiers()));
            }
        }
        Set<String> due = new TreeSet<>(Arrays.asList(METHODS));
        if (!seen.equals(due)) {
            System.out.println("methods are " + seen + "\ndue are " + due);
        }
        Check.due("the methods of the face", true, seen.equals(due));
        hidden.retainAll(names);
        Check.due("private methods with names of public ones", 0, hidden.size());
    }

    private static void fields() {
        int seen = 0;
        for (Field field : SlideStage.class.getDeclaredFields()) {
            int modifiers = field.getModifiers();
            boolean isNone = field.getName().equals("NONE");
            Check.due(field + " is private", !isNone, Modifier.isPrivate(modifiers));
            if (Modifier.isStatic(modifiers)) {
                Check.due(field + " is final", true, Modifier.isFinal(modifiers));
            }
            if (isNone) {
                seen++;
                Check.due("NONE", "public static final int SlideStage.NONE", field.toString());
                Check.due("NONE", -1, SlideStage.NONE);
            }
        }
        Check.due("constants of the face", 1, seen);
    }

    private static String told(Method method) {
        String takes = String.join(", ", namesOf(method.getParameterTypes()));
        return method.getReturnType() + " " + method.getName() + "(" + takes + ") "
                + list(namesOf(method.getExceptionTypes()));
    }

    private static String[] namesOf(Class<?>[] types) {
        String[] names = new String[types.length];
        for (int i = 0; i < names.length; i++) {
            names[i] = types[i].getSimpleName();
        }
        return names;
    }

    private static String list(String... names) {
        return Arrays.toString(names);
    }
}
