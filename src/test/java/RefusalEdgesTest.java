import java.util.function.Consumer;
import java.util.function.Supplier;

/** "A call that throws changes nothing", and which exception goes first, for each call of the face. */
public final class RefusalEdgesTest {
    private static final int NONE = SlideStage.NONE;
    private static final String UNCHANGED = "A call that throws changes nothing";
    private static final String FIRST =
            "where several exceptions that a call names fit, the one named first is thrown";
    private static final int[] LEAST = {-40, -40, 0, 0, 0, 0, 1};
    private static final int[] GREATEST = {40, 40, 40, 40, 0xFFFFFF, 255, 4};
    private static final Class<IndexOutOfBoundsException> OUT = IndexOutOfBoundsException.class;
    private static final Class<IllegalArgumentException> ARGUMENT = IllegalArgumentException.class;
    private static final Class<IllegalStateException> STATE = IllegalStateException.class;
    private static final Class<UnsupportedOperationException> UNSUPPORTED =
            UnsupportedOperationException.class;

    public static void main(String[] args) {
        Check.sentence("Terms (a new object)", UNCHANGED, RefusalEdgesTest::onANewObject);
        Check.sentence("Terms (pages and shapes)", UNCHANGED, RefusalEdgesTest::pagesAndShapes);
        Check.sentence("Terms (properties)", UNCHANGED, RefusalEdgesTest::properties);
        Check.sentence("Terms (texts)", UNCHANGED, RefusalEdgesTest::texts);
        Check.sentence("Terms (effects)", UNCHANGED, RefusalEdgesTest::effects);
        Check.sentence("Terms (the show)", UNCHANGED, RefusalEdgesTest::theShow);
        Check.sentence("Terms (where all is full)", UNCHANGED, RefusalEdgesTest::whereAllIsFull);
        Check.sentence("Promise 18", "otherwise false, refused", RefusalEdgesTest::clicksRefused);
        Check.sentence("Promise 19", "if there is none, false, refused", RefusalEdgesTest::backRefused);
        Check.sentence("Terms (page)", FIRST, RefusalEdgesTest::firstOfPage);
        Check.sentence("Terms (shape)", FIRST, RefusalEdgesTest::firstOfShape);
        Check.sentence("Terms (properties)", FIRST, RefusalEdgesTest::firstOfProperties);
        Check.sentence("Terms (write)", FIRST, RefusalEdgesTest::firstOfWrite);
        Check.sentence("Terms (effect)", FIRST, RefusalEdgesTest::firstOfEffect);
        Check.sentence("Terms (amount)", FIRST, RefusalEdgesTest::firstOfAmount);
        Check.end();
    }

    /** Some of everything, in the midst of a show: slide 1 of 3, one click, an effect that runs. */
    private static SlideStage inTheMidst() {
        SlideStage s = Stages.withSlides(3);
        s.shape(0, 3);
        s.shape(1, 3);
        s.shape(3, 3);
        s.shape(3, NONE);
        s.shape(1, NONE);
        s.set(0, 0, 2);
        s.set(1, 4, 0x102030);
        s.set(2, 2, 12);
        s.set(3, 5, 100);
        s.set(3, 1, 7);
        s.set(4, 4, 0x0000FF);
        s.write(2, 0, 0x030405);
        s.write(2, 1, 0x0202);
        s.effect(2, 2, 1, 0, 3);
        s.amount(0, 9);
        s.effect(3, 0, 0, 1, 8);
        s.effect(2, 3, 2, 0, 4);
        s.amount(2, -5);
        s.effect(3, 1, 0, 0, 5);
        s.jump(1);
        s.click();
        s.tick(4);
        return s;
    }

    /** 12 pages, 24 shapes, 24 effects, and 4 paragraphs on shape 0, which is on a slide. */
    private static SlideStage full() {
        SlideStage s = Stages.withSlides(10);
        for (int n = 0; n < 24; n++) {
            s.shape(n < 10 ? n + 2 : n % 2, n < 12 ? 5 : NONE);
        }
        for (int n = 0; n < 24; n++) {
            s.effect(n % 10, n % 4, n % 3, n, 2 * n);
        }
        for (int p = 0; p < 4; p++) {
            s.write(0, p % 3, 0x0203);
        }
        s.set(0, 0, 12);
        s.set(23, 4, 0x0000FF);
        s.click();
        s.tick(5);
        return s;
    }

    private static void onANewObject() {
        throwing(SlideStage::new, OUT, "page(1, 0)", s -> s.page(1, 0));
        throwing(SlideStage::new, OUT, "page(2, -1)", s -> s.page(2, NONE));
        throwing(SlideStage::new, OUT, "page(0, 0)", s -> s.page(0, 0));
        throwing(SlideStage::new, ARGUMENT, "page(3, -1)", s -> s.page(3, NONE));
        throwing(SlideStage::new, OUT, "shape(0, -1)", s -> s.shape(0, NONE));
        throwing(SlideStage::new, ARGUMENT, "theme(7, 0)", s -> s.theme(7, 0));
        throwing(SlideStage::new, OUT, "set(0, 0, 0)", s -> s.set(0, 0, 0));
        throwing(SlideStage::new, OUT, "write(0, 0, 1)", s -> s.write(0, 0, 1));
        throwing(SlideStage::new, OUT, "effect(0, 0, 0, 0, 0)", s -> s.effect(0, 0, 0, 0, 0));
        throwing(SlideStage::new, OUT, "jump(0)", s -> s.jump(0));
        throwing(SlideStage::new, ARGUMENT, "tick(1001)", s -> s.tick(1001));
    }

    private static void pagesAndShapes() {
        throwing(ARGUMENT, "page(-1, -1)", s -> s.page(-1, NONE));
        throwing(ARGUMENT, "page(3, 1)", s -> s.page(3, 1));
        throwing(OUT, "page(0, 0)", s -> s.page(0, 0));
        throwing(OUT, "page(1, 1)", s -> s.page(1, 1));
        throwing(OUT, "page(2, 0)", s -> s.page(2, 0));
        throwing(OUT, "page(2, 5)", s -> s.page(2, 5));
        throwing(OUT, "shape(5, 0)", s -> s.shape(5, 0));
        throwing(OUT, "shape(-1, -1)", s -> s.shape(-1, NONE));
        throwing(ARGUMENT, "shape(3, 8)", s -> s.shape(3, 8));
        throwing(ARGUMENT, "shape(3, -2)", s -> s.shape(3, -2));
        throwing(STATE, "shape(3, 3)", s -> s.shape(3, 3));
        throwing(OUT, "binding(5)", s -> s.binding(5));
    }

    private static void properties() {
        for (int p = 0; p < 7; p++) {
            int property = p;
            for (int shape = 0; shape < 5; shape++) {
                int of = shape;
                throwing(ARGUMENT, "set, too small", s -> s.set(of, property, LEAST[property] - 1));
                throwing(ARGUMENT, "set, too large", s -> s.set(of, property, GREATEST[property] + 1));
            }
            throwing(ARGUMENT, "theme, too small", s -> s.theme(property, LEAST[property] - 1));
            throwing(ARGUMENT, "theme, too large", s -> s.theme(property, GREATEST[property] + 1));
            throwing(OUT, "set of no shape", s -> s.set(5, property, 1));
            throwing(OUT, "unset of no shape", s -> s.unset(-1, property));
            throwing(OUT, "resolved of no shape", s -> s.resolved(5, property));
            throwing(OUT, "origin of no shape", s -> s.origin(5, property));
        }
        throwing(ARGUMENT, "theme(7, 1)", s -> s.theme(7, 1));
        throwing(ARGUMENT, "set(2, 7, 1)", s -> s.set(2, 7, 1));
        throwing(ARGUMENT, "unset(2, 7)", s -> s.unset(2, 7));
        throwing(ARGUMENT, "unset(2, -1)", s -> s.unset(2, -1));
        throwing(ARGUMENT, "resolved(2, 7)", s -> s.resolved(2, 7));
        throwing(ARGUMENT, "origin(2, 7)", s -> s.origin(2, 7));
    }

    private static void texts() {
        for (int shape = 0; shape < 5; shape++) {
            int of = shape;
            throwing(ARGUMENT, "write, level -1", s -> s.write(of, -1, 1));
            throwing(ARGUMENT, "write, level 3", s -> s.write(of, 3, 1));
            throwing(ARGUMENT, "write, 16 letters", s -> s.write(of, 0, 0x0110));
            throwing(ARGUMENT, "write, no letters", s -> s.write(of, 0, 0));
        }
        throwing(OUT, "write(5, 0, 1)", s -> s.write(5, 0, 1));
        throwing(OUT, "scale(5)", s -> s.scale(5));
        throwing(OUT, "lines(5)", s -> s.lines(5));
        throwing(OUT, "line(5, 0, 0)", s -> s.line(5, 0, 0));
        throwing(OUT, "number(5, 0)", s -> s.number(5, 0));
    }

    private static void effects() {
        throwing(OUT, "effect(5, 0, 0, 0, 0)", s -> s.effect(5, 0, 0, 0, 0));
        throwing(ARGUMENT, "effect(2, 4, 0, 0, 0)", s -> s.effect(2, 4, 0, 0, 0));
        throwing(ARGUMENT, "effect(2, 0, 3, 0, 0)", s -> s.effect(2, 0, 3, 0, 0));
        throwing(ARGUMENT, "effect(2, 0, 0, 51, 0)", s -> s.effect(2, 0, 0, 51, 0));
        throwing(ARGUMENT, "effect(2, 0, 0, 0, 51)", s -> s.effect(2, 0, 0, 0, 51));
        throwing(ARGUMENT, "effect(2, 0, 0, 0, -1)", s -> s.effect(2, 0, 0, 0, -1));
        throwing(STATE, "effect(0, 0, 0, 0, 0)", s -> s.effect(0, 0, 0, 0, 0));
        throwing(STATE, "effect(4, 0, 0, 0, 0)", s -> s.effect(4, 0, 0, 0, 0));
        throwing(OUT, "amount(4, 0)", s -> s.amount(4, 0));
        throwing(OUT, "amount(-1, 0)", s -> s.amount(-1, 0));
        throwing(ARGUMENT, "amount(0, 41)", s -> s.amount(0, 41));
        throwing(ARGUMENT, "amount(2, -41)", s -> s.amount(2, -41));
        throwing(OUT, "timing(4, 0)", s -> s.timing(4, 0));
    }

    private static void theShow() {
        throwing(OUT, "jump(3)", s -> s.jump(3));
        throwing(OUT, "jump(-1)", s -> s.jump(-1));
        throwing(ARGUMENT, "tick(-1)", s -> s.tick(-1));
        throwing(ARGUMENT, "tick(1001)", s -> s.tick(1001));
        throwing(OUT, "now(5, 0)", s -> s.now(5, 0));
        throwing(ARGUMENT, "now(2, 7)", s -> s.now(2, 7));
    }

    private static void whereAllIsFull() {
        throwing(RefusalEdgesTest::full, STATE, "a master", s -> s.page(0, NONE));
        throwing(RefusalEdgesTest::full, STATE, "a layout", s -> s.page(1, 0));
        throwing(RefusalEdgesTest::full, STATE, "a slide", s -> s.page(2, 1));
        throwing(RefusalEdgesTest::full, UNSUPPORTED, "a free shape", s -> s.shape(2, NONE));
        throwing(RefusalEdgesTest::full, UNSUPPORTED, "a shape in a slot", s -> s.shape(2, 0));
        throwing(RefusalEdgesTest::full, STATE, "a paragraph", s -> s.write(0, 0, 1));
        for (int trigger = 0; trigger < 3; trigger++) {
            int by = trigger;
            throwing(RefusalEdgesTest::full, UNSUPPORTED, "an effect", s -> s.effect(0, 0, by, 9, 9));
        }
    }

    private static void clicksRefused() {
        Twins.refused("a click without a page", SlideStage::new, SlideStage::click);
        Twins.refused("a click without a slide", RefusalEdgesTest::withoutASlide, SlideStage::click);
        Twins.refused("a click at the end", RefusalEdgesTest::atTheEnd, SlideStage::click);
    }

    private static void backRefused() {
        Twins.refused("back without a page", SlideStage::new, SlideStage::back);
        Twins.refused("back without a slide", RefusalEdgesTest::withoutASlide, SlideStage::back);
        Twins.refused("back at the beginning", RefusalEdgesTest::atTheBeginning, SlideStage::back);
    }

    private static SlideStage withoutASlide() {
        SlideStage s = new SlideStage();
        s.page(0, NONE);
        s.page(1, 0);
        s.shape(1, NONE);
        s.tick(9);
        return s;
    }

    private static SlideStage atTheEnd() {
        SlideStage s = inTheMidst();
        s.shape(4, NONE);
        s.effect(5, 2, 0, 0, 20);
        s.jump(2);
        s.click();
        s.tick(9);
        return s;
    }

    private static SlideStage atTheBeginning() {
        SlideStage s = inTheMidst();
        s.shape(2, NONE);
        s.effect(5, 2, 1, 0, 20);
        s.jump(0);
        s.tick(9);
        return s;
    }

    private static void firstOfPage() {
        SlideStage s = full();
        Check.argument("kind before parent", () -> Stages.withOneSlide().page(3, 99));
        Check.argument("kind before parent", () -> Stages.withOneSlide().page(-1, -2));
        Check.argument("kind before 12", () -> s.page(3, NONE));
        Check.argument("kind before parent and 12", () -> s.page(-1, 99));
        Check.out("a parent of a master before 12", () -> s.page(0, 0));
        Check.out("no parent of a layout before 12", () -> s.page(1, NONE));
        Check.out("the parent of a slide before 12", () -> s.page(2, 2));
        Check.out("no such page before 12", () -> s.page(2, 12));
    }

    private static void firstOfShape() {
        SlideStage s = full();
        Check.out("page before slot", () -> Stages.withOneSlide().shape(3, 8));
        Check.out("page before slot", () -> Stages.withOneSlide().shape(-1, -2));
        Check.out("page before 24", () -> s.shape(12, 0));
        Check.out("page before slot and 24", () -> s.shape(-1, 8));
        Check.argument("slot before 24", () -> s.shape(2, 8));
        Check.argument("slot before 24", () -> s.shape(2, -2));
        Check.state("a slot that is taken before 24", () -> s.shape(2, 5));
    }

    private static void firstOfProperties() {
        SlideStage s = Stages.withOneShape();
        for (int shape : Check.beyond(0, 0)) {
            Check.out("set: shape before property", () -> s.set(shape, 7, 1));
            Check.out("set: shape before value", () -> s.set(shape, 0, 41));
            Check.out("set: shape before both", () -> s.set(shape, -1, 41));
            Check.out("unset: shape before property", () -> s.unset(shape, 7));
            Check.out("resolved: shape before property", () -> s.resolved(shape, 7));
            Check.out("origin: shape before property", () -> s.origin(shape, -1));
            Check.out("now: shape before property", () -> s.now(shape, 7));
        }
    }

    private static void firstOfWrite() {
        SlideStage s = full();
        Check.out("shape before level", () -> s.write(24, 3, 1));
        Check.out("shape before words", () -> s.write(24, 0, 0));
        Check.out("shape before words", () -> s.write(-1, 0, 16));
        Check.argument("level before 4", () -> s.write(0, 3, 1));
        Check.argument("level before 4", () -> s.write(0, -1, 1));
        Check.argument("a byte before 4", () -> s.write(0, 0, 16));
        Check.argument("no letters before 4", () -> s.write(0, 0, 0));
        Check.state("then 4", () -> s.write(0, 0, 1));
    }

    private static void firstOfEffect() {
        SlideStage s = full();
        int onLayout = 11;
        Check.out("shape before the others", () -> Stages.withOneShape().effect(1, 4, 3, 51, 51));
        Check.out("shape before 24", () -> s.effect(24, 0, 0, 0, 0));
        Check.out("shape before the others and 24", () -> s.effect(-1, 4, 3, 51, 51));
        int[][] wrong = {{4, 0, 0, 0}, {-1, 0, 0, 0}, {0, 3, 0, 0}, {0, 0, 51, 0}, {0, 0, 0, 51}};
        for (int[] w : wrong) {
            Check.argument("an argument before 24", () -> s.effect(0, w[0], w[1], w[2], w[3]));
            Check.argument("an argument before no slide and 24",
                    () -> s.effect(onLayout, w[0], w[1], w[2], w[3]));
            SlideStage few = Stages.withOneSlide();
            few.shape(1, NONE);
            Check.argument("an argument before no slide", () -> few.effect(0, w[0], w[1], w[2], w[3]));
        }
        Check.state("no slide before 24", () -> s.effect(onLayout, 0, 0, 0, 0));
        Check.unsupported("then 24", () -> s.effect(0, 0, 0, 0, 0));
    }

    private static void firstOfAmount() {
        SlideStage s = Stages.withOneShape();
        s.effect(0, 2, 0, 0, 0);
        for (int effect : Check.beyond(0, 0)) {
            Check.out("effect before amount", () -> s.amount(effect, 41));
            Check.out("effect before amount", () -> s.amount(effect, -41));
        }
    }

    private static void throwing(
            Class<? extends RuntimeException> want, String call, Consumer<SlideStage> thrower) {
        throwing(RefusalEdgesTest::inTheMidst, want, call, thrower);
    }

    private static void throwing(Supplier<SlideStage> maker, Class<? extends RuntimeException> want,
            String call, Consumer<SlideStage> thrower) {
        Twins.unchanged(call, want, maker, thrower);
    }
}
