import java.lang.reflect.InvocationTargetException;
import java.lang.reflect.Method;
import java.util.Arrays;
import java.util.Random;

/**
 * All promises: long runs of calls, drawn from fixed seeds, answered as the plain model does. Most
 * arguments are fine where the run has come to, some are at a bound or beyond it. Narrow runs meet the
 * same few things often, wide ones come to where all is full.
 */
public final class ModelTest {
    private static final int NONE = SlideStage.NONE;
    private static final int RUNS = 800;
    private static final int CALLS = 512;
    private static final int MAKING = 40;
    private static final int MAKING_WIDE = 140;
    private static final int SLIDE = 2;
    private static final String[] NAMES = {
        "page", "shape", "theme", "set", "unset", "resolved", "origin", "binding", "write", "scale",
        "lines", "line", "number", "effect", "amount", "timing", "click", "back", "jump", "tick",
        "state", "now", "pixel"
    };
    private static final int[] WEIGHTS = {
        1, 1, 2, 8, 3, 4, 4, 2, 2, 3, 3, 5, 3, 2, 4, 8, 5, 4, 1, 8, 6, 12, 12
    };
    /** With these a run begins. */
    private static final int[] MAKING_WEIGHTS = {
        1, 4, 1, 4, 0, 0, 0, 0, 3, 0, 0, 0, 0, 4, 2, 1, 1, 0, 0, 1, 0, 1, 1
    };
    private static final int[] LEAST = {-40, -40, 0, 0, 0, 0, 1};
    private static final int[] GREATEST = {40, 40, 40, 40, 0xFFFFFF, 255, 4};
    private static final Method[] OF_MODEL = methodsOf(PlainModel.class);
    private static final Method[] OF_STAGE = methodsOf(SlideStage.class);

    private final Random random;
    private final boolean wide;
    private final SlideStage stage = new SlideStage();
    private final PlainModel model = new PlainModel();
    private final int[] kindOfPage = new int[12];
    private final int[] pageOfShape = new int[24];
    private int pages = 0;
    private int slides = 0;
    private int shapes = 0;
    private int effects = 0;

    private ModelTest(int seed) {
        random = new Random(seed);
        wide = seed % 2 == 1;
    }

    public static void main(String[] args) {
        boolean same = true;
        for (int seed = 0; seed < RUNS && same; seed++) {
            same = new ModelTest(seed).runsAlike(seed);
        }
        Check.due("runs as the model has them", true, same);
        Check.end();
    }

    private boolean runsAlike(int seed) {
        StringBuilder told = new StringBuilder();
        for (int k = 0; k < CALLS; k++) {
            int call = pickCall(k < (wide ? MAKING_WIDE : MAKING) ? MAKING_WEIGHTS : WEIGHTS);
            int[] a = random.nextInt(80) == 0 ? oddArguments() : arguments(NAMES[call]);
            if (k < 4 && seed % 8 != 0) {
                // Most runs begin with a master, a layout and two slides, so that a show can be.
                call = 0;
                a = new int[] {Math.min(k, 2), Math.min(k, 2) - 1};
            }
            String want = answer(model, OF_MODEL[call], a);
            String got = answer(stage, OF_STAGE[call], a);
            told.append(NAMES[call]).append(Arrays.toString(a)).append(" -> ").append(got).append('\n');
            if (!want.equals(got)) {
                System.out.println("seed " + seed + ":\n" + told + "due is " + want);
                return false;
            }
            remember(NAMES[call], a, want);
        }
        return true;
    }

    private int pickCall(int[] weights) {
        int left = random.nextInt(Arrays.stream(weights).sum());
        int call = 0;
        while (left >= weights[call]) {
            left -= weights[call];
            call++;
        }
        return call;
    }

    private int[] oddArguments() {
        int[] odd = {Integer.MIN_VALUE, -41, -2, -1, 0, 7, 41, 256, 1001, 0x1000000, Integer.MAX_VALUE};
        int[] a = new int[5];
        for (int i = 0; i < a.length; i++) {
            a[i] = random.nextInt(2) == 0 ? odd[random.nextInt(odd.length)] : random.nextInt(4);
        }
        return a;
    }

    private int[] arguments(String name) {
        return switch (name) {
            case "page" -> page(between(0, 2));
            case "shape" -> new int[] {index(pages), between(NONE, wide ? 7 : 2)};
            case "theme" -> property(new int[2], 0);
            case "set" -> property(new int[] {index(shapes), 0, 0}, 1);
            case "unset", "resolved", "origin", "now" -> new int[] {index(shapes), between(0, 6)};
            case "write" -> new int[] {index(Math.min(4, shapes)), between(0, 2), words()};
            case "line" -> new int[] {index(Math.min(4, shapes)), between(0, 7), between(0, 3)};
            case "number" -> new int[] {index(Math.min(4, shapes)), between(0, 3)};
            case "effect" -> new int[] {
                shapeOnASlide(), between(0, 3), between(0, 2), between(0, wide ? 50 : 4),
                between(0, wide ? 50 : 9)
            };
            case "amount" -> new int[] {index(effects), between(-40, 40)};
            case "timing" -> new int[] {index(effects), between(0, 3)};
            case "jump" -> new int[] {index(slides)};
            case "tick" -> new int[] {between(0, wide ? 30 : 4)};
            case "state" -> new int[] {between(0, 4)};
            case "pixel" -> new int[] {between(0, 23), between(0, 15)};
            default -> new int[] {index(shapes)};
        };
    }

    private int[] page(int kind) {
        int parent = random.nextInt(pages + 2) - 1;
        for (int tries = 0; tries < 20 && !mayBeParent(kind, parent); tries++) {
            parent = random.nextInt(pages + 2) - 1;
        }
        return new int[] {kind, parent};
    }

    private boolean mayBeParent(int kind, int parent) {
        boolean isPage = parent >= 0 && parent < pages;
        return kind == 0 ? parent == NONE : isPage && kindOfPage[parent] == kind - 1;
    }

    private int shapeOnASlide() {
        int shape = index(shapes);
        for (int tries = 0; tries < 10 && shape >= 0 && shape < shapes; tries++) {
            if (kindOfPage[pageOfShape[shape]] == SLIDE) {
                return shape;
            }
            shape = index(shapes);
        }
        return shape;
    }

    private int words() {
        int words = random.nextInt() & random.nextInt() & 0x0F0F0F0F;
        return random.nextInt(30) == 0 ? words | 16 << 8 * random.nextInt(4) : words;
    }

    private int[] property(int[] a, int place) {
        int property = random.nextInt(7);
        a[place] = property;
        a[place + 1] = between(LEAST[property], GREATEST[property]);
        if (property <= 1 && random.nextInt(3) != 0) {
            // Most shapes shall be on the picture.
            a[place + 1] = random.nextInt(20) - 4;
        }
        return a;
    }

    /** Mostly the number of one of so many things, now and then of none. */
    private int index(int count) {
        if (count == 0 || random.nextInt(30) == 0) {
            return random.nextBoolean() ? count : -1;
        }
        return random.nextInt(count);
    }

    private int between(int least, int greatest) {
        if (random.nextInt(10) == 0) {
            int[] edges = {least - 1, least, least, greatest, greatest, greatest + 1};
            return edges[random.nextInt(edges.length)];
        }
        return least + random.nextInt(greatest - least + 1);
    }

    /** Keeps what was made, so that later calls can name it. */
    private void remember(String name, int[] a, String answered) {
        if (answered.endsWith("Exception")) {
            return;
        }
        switch (name) {
            case "page" -> {
                kindOfPage[pages++] = a[0];
                slides += a[0] == SLIDE ? 1 : 0;
            }
            case "shape" -> pageOfShape[shapes++] = a[0];
            case "effect" -> effects++;
            default -> {
            }
        }
    }

    /** The answer of the method of that name: its number, or the name of what it throws. */
    private static String answer(Object asked, Method method, int[] a) {
        Object[] arguments = new Object[method.getParameterCount()];
        for (int i = 0; i < arguments.length; i++) {
            arguments[i] = a[i];
        }
        try {
            return String.valueOf(method.invoke(asked, arguments));
        } catch (InvocationTargetException e) {
            return e.getCause().getClass().getSimpleName();
        } catch (IllegalAccessException e) {
            return "no access to " + method;
        }
    }

    private static Method[] methodsOf(Class<?> type) {
        Method[] found = new Method[NAMES.length];
        for (Method method : type.getDeclaredMethods()) {
            int at = Arrays.asList(NAMES).indexOf(method.getName());
            if (at >= 0) {
                found[at] = method;
            }
        }
        return found;
    }
}
