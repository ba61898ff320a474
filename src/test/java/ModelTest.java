import java.lang.reflect.InvocationTargetException;
import java.lang.reflect.Method;
import java.util.Arrays;
import java.util.Random;

/** All promises: long runs of calls, drawn from fixed seeds, answered as the plain model does. */
public final class ModelTest {
    private static final int RUNS = 1500;
    private static final int CALLS = 512;
    private static final String[] NAMES = {
        "page", "shape", "theme", "set", "unset", "resolved", "origin", "binding", "write", "scale",
        "lines", "line", "number", "effect", "amount", "timing", "click", "back", "jump", "tick",
        "state", "now", "pixel"
    };
    private static final int[] WEIGHTS = {
        2, 3, 2, 8, 2, 4, 4, 2, 4, 3, 3, 5, 3, 4, 3, 5, 3, 2, 1, 4, 5, 8, 8
    };
    private static final Method[] OF_MODEL = methodsOf(PlainModel.class);
    private static final Method[] OF_STAGE = methodsOf(SlideStage.class);

    public static void main(String[] args) {
        boolean same = true;
        for (int run = 0; run < RUNS && same; run++) {
            same = runOnce(run);
        }
        Check.due("runs as the model has them", true, same);
        Check.end();
    }

    private static boolean runOnce(int seed) {
        Random random = new Random(seed);
        SlideStage stage = new SlideStage();
        PlainModel model = new PlainModel();
        StringBuilder told = new StringBuilder();
        for (int k = 0; k < CALLS; k++) {
            int call = k < 4 && seed % 8 != 0 ? 0 : pickCall(random);
            int[] a = arguments(random, call);
            if (k < 4 && call == 0) {
                a[0] = Math.min(k, 2);
                a[1] = Math.min(k, 2) - 1;
            }
            String want = answer(model, OF_MODEL[call], a);
            String got = answer(stage, OF_STAGE[call], a);
            told.append(NAMES[call]).append(Arrays.toString(a)).append(" -> ").append(got).append('\n');
            if (!want.equals(got)) {
                System.out.println("seed " + seed + ":\n" + told + "due is " + want);
                return false;
            }
        }
        return true;
    }

    private static int pickCall(Random random) {
        int sum = 0;
        for (int weight : WEIGHTS) {
            sum += weight;
        }
        int left = random.nextInt(sum);
        int call = 0;
        while (left >= WEIGHTS[call]) {
            left -= WEIGHTS[call];
            call++;
        }
        return call;
    }

    private static int[] arguments(Random random, int call) {
        int[] a = new int[5];
        if (random.nextInt(60) == 0) {
            int[] odd = {Integer.MIN_VALUE, -41, -2, -1, 0, 7, 41, 256, 1001, 0x1000000, Integer.MAX_VALUE};
            for (int i = 0; i < a.length; i++) {
                a[i] = random.nextInt(2) == 0 ? odd[random.nextInt(odd.length)] : random.nextInt(4);
            }
            return a;
        }
        switch (NAMES[call]) {
            case "page" -> fill(random, a, 0, 2, -1, 6);
            case "shape" -> fill(random, a, 0, 8, -1, 3);
            case "theme" -> property(random, a, 0);
            case "set" -> {
                fill(random, a, 0, 12);
                property(random, a, 1);
            }
            case "unset", "resolved", "origin", "now" -> fill(random, a, 0, 12, 0, 6);
            case "write" -> {
                fill(random, a, 0, 5, 0, 2);
                a[2] = random.nextInt() & random.nextInt() & 0x0F0F0F0F;
            }
            case "line" -> fill(random, a, 0, 5, -1, 8, 0, 4);
            case "number" -> fill(random, a, 0, 5, -1, 4);
            case "effect" -> fill(random, a, 0, 12, 0, 3, 0, 2, 0, 6, 0, 12);
            case "amount" -> fill(random, a, 0, 12, -40, 40);
            case "timing" -> fill(random, a, 0, 12, -1, 4);
            case "jump" -> fill(random, a, -1, 3);
            case "tick" -> fill(random, a, 0, 6);
            case "state" -> fill(random, a, -1, 5);
            case "pixel" -> fill(random, a, -1, 24, -1, 16);
            default -> fill(random, a, 0, 12);
        }
        return a;
    }

    /** Numbers between pairs of bounds, one after the other. */
    private static void fill(Random random, int[] a, int... bounds) {
        for (int i = 0; i < bounds.length / 2; i++) {
            a[i] = bounds[2 * i] + random.nextInt(bounds[2 * i + 1] - bounds[2 * i] + 1);
        }
    }

    private static void property(Random random, int[] a, int place) {
        int[] least = {-10, -10, 0, 0, 0, 0, 1};
        int[] greatest = {20, 12, 40, 40, 0xFFFFFF, 255, 4};
        int property = random.nextInt(7);
        a[place] = property;
        a[place + 1] = least[property] + random.nextInt(greatest[property] - least[property] + 1);
    }

    /** The answer of the method of that name: its number, or the name of what it throws. */
    private static String answer(Object asked, Method method, int[] a) {
        Object[] arguments = new Object[method.getParameterCount()];
        for (int i = 0; i < arguments.length; i++) {
            arguments[i] = a[i];
        }
        try {
            return String.valueOf(method.invoke(asked, arguments));
        } catch (InvocationTargetException e) {
            return e.getCause().getClass().getSimpleName();
        } catch (IllegalAccessException e) {
            return "no access to " + method;
        }
    }

    private static Method[] methodsOf(Class<?> type) {
        Method[] found = new Method[NAMES.length];
        for (Method method : type.getDeclaredMethods()) {
            int at = Arrays.asList(NAMES).indexOf(method.getName());
            if (at >= 0) {
                found[at] = method;
            }
        }
        return found;
    }
}
