import java.lang.reflect.Constructor;
import java.lang.reflect.Field;
import java.lang.reflect.Method;
import java.lang.reflect.Modifier;
import java.util.Arrays;
import java.util.Set;
import java.util.TreeSet;

/** The public face: what the document lists, and no other member that is seen from outside. */
public final class FaceTest {
    private static final String OUT = "IndexOutOfBoundsException";
    private static final String ARGUMENT = "IllegalArgumentException";
    private static final String STATE = "IllegalStateException";
    private static final String UNSUPPORTED = "UnsupportedOperationException";

    private static final String[] METHODS = {
        "int page(2) " + list(ARGUMENT, OUT, STATE),
        "int shape(2) " + list(OUT, ARGUMENT, STATE, UNSUPPORTED),
        "void theme(2) " + list(ARGUMENT),
        "void set(3) " + list(OUT, ARGUMENT),
        "boolean unset(2) " + list(OUT, ARGUMENT),
        "int resolved(2) " + list(OUT, ARGUMENT),
        "int origin(2) " + list(OUT, ARGUMENT),
        "int binding(1) " + list(OUT),
        "int write(3) " + list(OUT, ARGUMENT, STATE),
        "int scale(1) " + list(OUT),
        "int lines(1) " + list(OUT),
        "int line(3) " + list(OUT),
        "int number(2) " + list(OUT),
        "int effect(5) " + list(OUT, ARGUMENT, STATE, UNSUPPORTED),
        "void amount(2) " + list(OUT, ARGUMENT),
        "int timing(2) " + list(OUT),
        "boolean click(0) " + list(),
        "boolean back(0) " + list(),
        "void jump(1) " + list(OUT),
        "void tick(1) " + list(ARGUMENT),
        "int state(1) " + list(),
        "int now(2) " + list(OUT, ARGUMENT),
        "int pixel(2) " + list(),
    };

    public static void main(String[] args) {
        theClass();
        methods();
        fields();
        Check.end();
    }

    private static void theClass() {
        int modifiers = SlideStage.class.getModifiers();
        Check.due("public and final", true, Modifier.isPublic(modifiers) && Modifier.isFinal(modifiers));
        Constructor<?>[] constructors = SlideStage.class.getDeclaredConstructors();
        Check.due("one constructor", 1, constructors.length);
        Check.due("it is public", true, Modifier.isPublic(constructors[0].getModifiers()));
        Check.due("it takes nothing", 0, constructors[0].getParameterCount());
        for (Class<?> inside : SlideStage.class.getDeclaredClasses()) {
            Check.due(inside + " is static", true, Modifier.isStatic(inside.getModifiers()));
            Check.due(inside + " is public", false, Modifier.isPublic(inside.getModifiers()));
        }
    }

    private static void methods() {
        Set<String> seen = new TreeSet<>();
        Set<String> names = new TreeSet<>();
        Set<String> hidden = new TreeSet<>();
        for (Method method : SlideStage.class.getDeclaredMethods()) {
            if (Modifier.isPrivate(method.getModifiers())) {
                hidden.add(method.getName());
            } else {
                seen.add(told(method));
                names.add(method.getName());
                Check.due(method + " is public", true, Modifier.isPublic(method.getModifiers()));
            }
        }
        Set<String> due = new TreeSet<>(Arrays.asList(METHODS));
        if (!seen.equals(due)) {
            System.out.println("methods are " + seen + "\ndue are " + due);
        }
        Check.due("the methods of the face", true, seen.equals(due));
        hidden.retainAll(names);
        Check.due("private methods with names of public ones", 0, hidden.size());
    }

    private static void fields() {
        for (Field field : SlideStage.class.getDeclaredFields()) {
            int modifiers = field.getModifiers();
            Check.due(field + " is private", !field.getName().equals("NONE"), Modifier.isPrivate(modifiers));
            if (Modifier.isStatic(modifiers)) {
                Check.due(field + " is final", true, Modifier.isFinal(modifiers));
            }
        }
    }

    private static String told(Method method) {
        String[] thrown = new String[method.getExceptionTypes().length];
        for (int i = 0; i < thrown.length; i++) {
            thrown[i] = method.getExceptionTypes()[i].getSimpleName();
        }
        return method.getReturnType() + " " + method.getName() + "(" + method.getParameterCount() + ") " + list(thrown);
    }

    private static String list(String... names) {
        return Arrays.toString(names);
    }
}
