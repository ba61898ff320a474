import java.util.ArrayList;
import java.util.List;
import java.util.function.Consumer;
import java.util.function.IntSupplier;
import java.util.function.Supplier;

/** Two stages made alike, one of them with a call more: the other shows whether that changed it. */
final class Twins {
    private static final int NONE = SlideStage.NONE;
    private static final int LOOKED_AT_WHOLE = 6;

    private final SlideStage stage;
    private final List<String> answers = new ArrayList<>();

    private Twins(SlideStage stage) {
        this.stage = stage;
    }

    /** The call throws what is due, and what is asked and told behind it goes on as without it. */
    static void unchanged(String call, Class<? extends RuntimeException> want,
            Supplier<SlideStage> maker, Consumer<SlideStage> thrower) {
        SlideStage one = maker.get();
        Check.thrown(call, want, () -> thrower.accept(one));
        compare(call, one, maker.get());
    }

    /** The call answers that it is refused, and what follows goes on as without it. */
    static void refused(String call, Supplier<SlideStage> maker, Call refused) {
        SlideStage one = maker.get();
        Check.due(call, false, refused.on(one));
        compare(call, one, maker.get());
    }

    interface Call {
        boolean on(SlideStage stage);
    }

    private static void compare(String call, SlideStage one, SlideStage other) {
        List<String> got = lookedAt(one);
        List<String> want = lookedAt(other);
        Check.due("behind " + call, String.join("\n", want), String.join("\n", got));
    }

    /** All that can be seen of a stage, as far as some 400 calls go. */
    private static List<String> lookedAt(SlideStage stage) {
        Twins seen = new Twins(stage);
        seen.lookAtShow();
        seen.lookAtShapes();
        seen.lookAtEffects();
        seen.lookAtPicture();
        seen.goOn();
        return seen.answers;
    }

    private void lookAtShow() {
        for (int what = 0; what <= 4; what++) {
            int asked = what;
            note("state " + what, () -> stage.state(asked));
        }
    }

    private void lookAtShapes() {
        boolean there = true;
        for (int shape = 0; there; shape++) {
            int asked = shape;
            there = note("binding of " + shape, () -> stage.binding(asked));
            if (there && shape < LOOKED_AT_WHOLE) {
                lookAtProperties(shape);
                lookAtText(shape);
            } else if (there) {
                note("a property of " + shape, () -> stage.resolved(asked, asked % 7));
            }
        }
    }

    private void lookAtProperties(int shape) {
        for (int p = 0; p < 7; p++) {
            int property = p;
            note("resolved " + shape + " " + p, () -> stage.resolved(shape, property));
            note("origin " + shape + " " + p, () -> stage.origin(shape, property));
            note("now " + shape + " " + p, () -> stage.now(shape, property));
        }
    }

    private void lookAtText(int shape) {
        note("scale " + shape, () -> stage.scale(shape));
        note("lines " + shape, () -> stage.lines(shape));
        int lines = stage.lines(shape);
        for (int k = 0; k < lines; k++) {
            int asked = k;
            note("line " + shape + " " + k, () -> stage.line(shape, asked, 3));
        }
        for (int p = 0; lines > 0 && p < 4; p++) {
            int paragraph = p;
            note("number " + shape + " " + p, () -> stage.number(shape, paragraph));
        }
    }

    private void lookAtEffects() {
        boolean there = true;
        for (int effect = 0; there; effect++) {
            int asked = effect;
            there = note("progress of " + effect, () -> stage.timing(asked, 3));
            for (int w = 0; there && effect < LOOKED_AT_WHOLE && w < 3; w++) {
                int what = w;
                note("timing " + effect + " " + w, () -> stage.timing(asked, what));
            }
        }
    }

    private void lookAtPicture() {
        for (int x = 1; x < 24; x += 4) {
            for (int y = 1; y < 16; y += 4) {
                int column = x;
                int row = y;
                note("pixel " + x + " " + y, () -> stage.pixel(column, row));
            }
        }
    }

    /** New things get the numbers that are due, and the show takes the way that is due. */
    private void goOn() {
        note("a new paragraph", () -> stage.write(0, 0, 1));
        note("a new shape", () -> stage.shape(0, NONE));
        for (int shape = 0; shape < 4; shape++) {
            addEffect(shape);
        }
        note("a new page", () -> stage.page(0, NONE));
        for (int n = 0; n < 6; n++) {
            note("back", () -> stage.back() ? 1 : 0);
            note("time", () -> stage.state(2));
        }
        for (int n = 0; n < 6; n++) {
            note("click", () -> stage.click() ? 1 : 0);
            note("slide", () -> stage.state(0));
        }
        boolean there = true;
        for (int k = 0; there; k++) {
            int slide = k;
            there = note("jump to " + k, () -> {
                stage.jump(slide);
                return slide;
            });
        }
    }

    private void addEffect(int shape) {
        if (note("a new effect on " + shape, () -> stage.effect(shape, 2, 2, 1, 1))) {
            note("the length then", () -> stage.state(4));
        }
    }

    /** Notes an answer, or the name of what is thrown; whether it answered. */
    private boolean note(String call, IntSupplier asked) {
        try {
            answers.add(call + ": " + asked.getAsInt());
            return true;
        } catch (RuntimeException e) {
            answers.add(call + ": " + e.getClass().getSimpleName());
            return false;
        }
    }
}
