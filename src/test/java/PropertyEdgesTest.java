/** The sentences on properties and the theme that name a boundary case: a test for each. */
public final class PropertyEdgesTest {
    private static final int NONE = SlideStage.NONE;
    private static final int PROPERTIES = 7;
    private static final int[] LEAST = {-40, -40, 0, 0, 0, 0, 1};
    private static final int[] GREATEST = {40, 40, 40, 40, 0xFFFFFF, 255, 4};
    private static final int[] THEME = {0, 0, 8, 4, 0x808080, 255, 4};
    /** For each property a value that is not the theme's. */
    private static final int[] OTHER = {5, -6, 17, 9, 0x0102FE, 0, 1};
    private static final String NO_SHAPE = "IndexOutOfBoundsException when there is no such shape";
    private static final String NO_PROPERTY = "IllegalArgumentException when there is no such property";

    public static void main(String[] args) {
        whatTheyMayBe();
        whatIsResolved();
        telling();
        asking();
        Check.end();
    }

    private static void whatTheyMayBe() {
        Check.sentence("Terms", "0 X and 1 Y -40 .. 40", () -> {
            expectBounds(0, -40, 40);
            expectBounds(1, -40, 40);
        });
        Check.sentence("Terms", "2 WIDTH and 3 HEIGHT 0 .. 40", () -> {
            expectBounds(2, 0, 40);
            expectBounds(3, 0, 40);
        });
        Check.sentence("Terms", "4 COLOR 0 .. 0xFFFFFF", () -> expectBounds(4, 0, 0xFFFFFF));
        Check.sentence("Terms", "5 ALPHA 0 .. 255", () -> expectBounds(5, 0, 255));
        Check.sentence("Terms", "6 SCALE 1 .. 4", () -> expectBounds(6, 1, 4));
        Check.sentence("Terms", "The THEME has all of them, at first 0, 0, 8, 4, 0x808080, 255, 4.",
                PropertyEdgesTest::themeAtFirst);
    }

    private static void whatIsResolved() {
        Check.sentence("Terms", "A shape may have some.", PropertyEdgesTest::someOfThem);
        Check.sentence("Terms", "its own, if it has it", PropertyEdgesTest::itsOwn);
        Check.sentence("Terms", "otherwise, if it has a slot", PropertyEdgesTest::onlyWithASlot);
        Check.sentence("Terms", "that of the shape with this slot on the parent of its page,"
                + " if there is one and it has it", PropertyEdgesTest::fromTheParent);
        Check.sentence("Terms", "or on the parent of that", PropertyEdgesTest::fromTheParentOfThat);
        Check.sentence("Terms", "otherwise the theme's", PropertyEdgesTest::fromTheTheme);
    }

    private static void telling() {
        Check.sentence("Promise 4", "(what is resolved, and how texts fit, is so as it is then)",
                PropertyEdgesTest::themeAsItIsThen);
        Check.sentence("Promise 4", "IllegalArgumentException when there is no such property, or value is"
                + " none for it", PropertyEdgesTest::themeWithout);
        Check.sentence("Promise 5", "A shape's own property.", PropertyEdgesTest::setAlone);
        Check.sentence("Promise 5", NO_SHAPE, PropertyEdgesTest::setOfNoShape);
        Check.sentence("Promise 5", NO_PROPERTY + ", or value is none for it",
                PropertyEdgesTest::setWithout);
        Check.sentence("Promise 6", "A shape has a property of its own no longer; whether it had.",
                PropertyEdgesTest::unsetTwice);
        Check.sentence("Promise 6", NO_SHAPE, PropertyEdgesTest::unsetOfNoShape);
        Check.sentence("Promise 6", NO_PROPERTY, PropertyEdgesTest::unsetWithout);
    }

    private static void asking() {
        Check.sentence("Promise 7", "A resolved property.", PropertyEdgesTest::resolvedWhole);
        Check.sentence("Promise 7", NO_SHAPE, PropertyEdgesTest::resolvedOfNoShape);
        Check.sentence("Promise 7", NO_PROPERTY, PropertyEdgesTest::resolvedWithout);
        Check.sentence("Promise 8", "The shape (itself, if it is its own) that a resolved property is from",
                PropertyEdgesTest::originOfEach);
        Check.sentence("Promise 8", "NONE for the theme", PropertyEdgesTest::originOfTheTheme);
        Check.sentence("Promise 8", NO_SHAPE, PropertyEdgesTest::originOfNoShape);
        Check.sentence("Promise 8", NO_PROPERTY, PropertyEdgesTest::originWithout);
    }

    private static void expectBounds(int property, int least, int greatest) {
        SlideStage s = Stages.withOneShape();
        s.shape(2, NONE);
        int[] fine = {least, least + 1, greatest - 1, greatest};
        for (int value : fine) {
            s.theme(property, value);
            Check.due("theme " + property, value, s.resolved(1, property));
            s.set(0, property, value);
            Check.due("set " + property, value, s.resolved(0, property));
        }
        for (int value : Check.beyond(least, greatest)) {
            Check.argument("theme(" + property + ", " + value + ")", () -> s.theme(property, value));
            Check.argument("set(0, " + property + ", " + value + ")", () -> s.set(0, property, value));
        }
        Check.due("theme " + property + " stays", greatest, s.resolved(1, property));
        Check.due("set " + property + " stays", greatest, s.resolved(0, property));
    }

    private static void themeAtFirst() {
        SlideStage s = Stages.withOneShape();
        for (int p = 0; p < PROPERTIES; p++) {
            Check.due("theme " + p, THEME[p], s.resolved(0, p));
        }
    }

    private static void someOfThem() {
        for (int told = 0; told < PROPERTIES; told++) {
            SlideStage s = Stages.withOneShape();
            s.set(0, told, OTHER[told]);
            for (int p = 0; p < PROPERTIES; p++) {
                expect(s, 0, p, p == told ? OTHER[p] : THEME[p], p == told ? 0 : NONE);
            }
        }
    }

    private static void itsOwn() {
        SlideStage s = threeInSlot(5);
        for (int p = 0; p < PROPERTIES; p++) {
            s.set(0, p, OTHER[p]);
            s.set(1, p, OTHER[p]);
            s.set(2, p, THEME[p]);
            expect(s, 2, p, THEME[p], 2);
            s.set(2, p, LEAST[p]);
            expect(s, 2, p, LEAST[p], 2);
        }
    }

    private static void onlyWithASlot() {
        SlideStage s = Stages.withOneSlide();
        for (int page = 0; page < 3; page++) {
            s.shape(page, NONE);
        }
        s.shape(1, 0);
        for (int p = 0; p < PROPERTIES; p++) {
            s.set(0, p, OTHER[p]);
            s.set(1, p, OTHER[p]);
            s.set(3, p, OTHER[p]);
            expect(s, 2, p, THEME[p], NONE);
        }
    }

    private static void fromTheParent() {
        for (int slot = 0; slot < 8; slot++) {
            SlideStage s = threeInSlot(slot);
            s.set(1, 0, 7);
            expect(s, 2, 0, 7, 1);
            s.set(0, 0, 9);
            expect(s, 2, 0, 7, 1);
            expect(s, 1, 0, 7, 1);
            s.unset(1, 0);
            expect(s, 2, 0, 9, 0);
            expect(s, 1, 0, 9, 0);
        }
    }

    private static void fromTheParentOfThat() {
        for (int slot = 0; slot < 8; slot++) {
            SlideStage without = Stages.withOneSlide();
            without.shape(0, slot);
            without.shape(2, slot);
            without.set(0, 0, 9);
            expect(without, 1, 0, 9, 0);
            SlideStage with = threeInSlot(slot);
            with.set(0, 0, 9);
            with.set(1, 1, 8);
            expect(with, 2, 0, 9, 0);
        }
    }

    private static void fromTheTheme() {
        SlideStage s = threeInSlot(3);
        s.page(0, NONE);
        s.page(1, 3);
        s.page(2, 1);
        s.set(s.shape(3, 3), 0, 11);
        s.set(s.shape(4, 3), 0, 12);
        s.set(s.shape(5, 3), 0, 13);
        s.set(s.shape(1, 4), 0, 14);
        s.set(s.shape(0, 4), 0, 15);
        for (int shape = 0; shape < 3; shape++) {
            expect(s, shape, 0, 0, NONE);
        }
        s.set(2, 0, 16);
        expect(s, 1, 0, 0, NONE);
        expect(s, 0, 0, 0, NONE);
    }

    private static void themeAsItIsThen() {
        SlideStage s = threeInSlot(1);
        s.write(2, 0, 0x0101);
        Check.due("in 8 by 4", 2, s.scale(2));
        s.theme(2, 12);
        Check.due("in 12 by 4", 4, s.scale(2));
        Check.due("one line", 1, s.lines(2));
        s.theme(3, 3);
        Check.due("in 12 by 3", 3, s.scale(2));
        s.theme(6, 2);
        Check.due("at most 2", 2, s.scale(2));
        s.theme(3, 0);
        Check.due("in 12 by 0", 0, s.scale(2));
        for (int p = 0; p < PROPERTIES; p++) {
            s.theme(p, GREATEST[p]);
            expect(s, 2, p, GREATEST[p], NONE);
            s.theme(p, LEAST[p]);
            expect(s, 2, p, LEAST[p], NONE);
            s.set(1, p, OTHER[p]);
            s.theme(p, GREATEST[p]);
            expect(s, 2, p, OTHER[p], 1);
        }
    }

    private static void themeWithout() {
        SlideStage s = Stages.withOneShape();
        for (int property : Check.beyond(0, 6)) {
            Check.argument("theme(" + property + ", 1)", () -> s.theme(property, 1));
        }
        for (int p = 0; p < PROPERTIES; p++) {
            int property = p;
            for (int value : Check.beyond(LEAST[p], GREATEST[p])) {
                Check.argument("theme(" + p + ", " + value + ")", () -> s.theme(property, value));
            }
            Check.due("theme " + p + " stays", THEME[p], s.resolved(0, p));
        }
    }

    private static void setAlone() {
        SlideStage s = threeInSlot(0);
        s.shape(2, 1);
        for (int p = 0; p < PROPERTIES; p++) {
            s.set(2, p, GREATEST[p]);
            s.set(2, p, OTHER[p]);
            expect(s, 2, p, OTHER[p], 2);
            expect(s, 0, p, THEME[p], NONE);
            expect(s, 1, p, THEME[p], NONE);
            expect(s, 3, p, THEME[p], NONE);
        }
    }

    private static void setOfNoShape() {
        SlideStage none = Stages.withOneSlide();
        for (int shape : Check.beyond(0, -1)) {
            Check.out("set(" + shape + ", 0, 0) without shapes", () -> none.set(shape, 0, 0));
        }
        SlideStage s = Stages.withOneShape();
        for (int shape : Check.beyond(0, 0)) {
            Check.out("set(" + shape + ", 0, 0)", () -> s.set(shape, 0, 0));
        }
    }

    private static void setWithout() {
        SlideStage s = Stages.withOneShape();
        for (int property : Check.beyond(0, 6)) {
            Check.argument("set(0, " + property + ", 1)", () -> s.set(0, property, 1));
        }
        for (int p = 0; p < PROPERTIES; p++) {
            int property = p;
            for (int value : Check.beyond(LEAST[p], GREATEST[p])) {
                Check.argument("set(0, " + p + ", " + value + ")", () -> s.set(0, property, value));
            }
            expect(s, 0, p, THEME[p], NONE);
        }
    }

    private static void unsetTwice() {
        SlideStage s = threeInSlot(2);
        for (int p = 0; p < PROPERTIES; p++) {
            Check.due("never had it", false, s.unset(2, p));
            s.set(1, p, OTHER[p]);
            Check.due("the layout's is not its own", false, s.unset(2, p));
            expect(s, 2, p, OTHER[p], 1);
            s.set(2, p, THEME[p]);
            Check.due("had it", true, s.unset(2, p));
            expect(s, 2, p, OTHER[p], 1);
            Check.due("no longer", false, s.unset(2, p));
            Check.due("the layout had it", true, s.unset(1, p));
            expect(s, 2, p, THEME[p], NONE);
        }
        s.set(2, 0, 1);
        s.set(2, 1, 2);
        s.unset(2, 0);
        expect(s, 2, 1, 2, 2);
    }

    private static void unsetOfNoShape() {
        SlideStage none = Stages.withOneSlide();
        for (int shape : Check.beyond(0, -1)) {
            Check.out("unset(" + shape + ", 0) without shapes", () -> none.unset(shape, 0));
        }
        SlideStage s = Stages.withOneShape();
        for (int shape : Check.beyond(0, 0)) {
            Check.out("unset(" + shape + ", 0)", () -> s.unset(shape, 0));
        }
    }

    private static void unsetWithout() {
        SlideStage s = Stages.withOneShape();
        for (int property : Check.beyond(0, 6)) {
            Check.argument("unset(0, " + property + ")", () -> s.unset(0, property));
        }
    }

    private static void resolvedWhole() {
        SlideStage s = threeInSlot(6);
        for (int p = 0; p < PROPERTIES; p++) {
            s.set(p % 3, p, OTHER[p]);
            Check.due("resolved " + p, OTHER[p], s.resolved(2, p));
        }
        s.effect(2, 1, 1, 0, 0);
        s.amount(s.effect(2, 2, 1, 0, 0), 9);
        Check.due("an effect does not change it", OTHER[0], s.resolved(2, 0));
        s.set(2, 5, 77);
        Check.due("nor ALPHA", 77, s.resolved(2, 5));
    }

    private static void resolvedOfNoShape() {
        SlideStage none = Stages.withOneSlide();
        for (int shape : Check.beyond(0, -1)) {
            Check.out("resolved(" + shape + ", 0) without shapes", () -> none.resolved(shape, 0));
        }
        SlideStage s = Stages.withOneShape();
        for (int shape : Check.beyond(0, 0)) {
            Check.out("resolved(" + shape + ", 0)", () -> s.resolved(shape, 0));
        }
    }

    private static void resolvedWithout() {
        SlideStage s = Stages.withOneShape();
        for (int property : Check.beyond(0, 6)) {
            Check.argument("resolved(0, " + property + ")", () -> s.resolved(0, property));
        }
    }

    private static void originOfEach() {
        SlideStage s = threeInSlot(7);
        for (int p = 0; p < PROPERTIES; p++) {
            s.set(0, p, THEME[p]);
            Check.due("the master's, for the slide's", 0, s.origin(2, p));
            Check.due("the master's, for the layout's", 0, s.origin(1, p));
            Check.due("the master's, its own", 0, s.origin(0, p));
            s.set(1, p, THEME[p]);
            Check.due("the layout's, for the slide's", 1, s.origin(2, p));
            s.set(2, p, THEME[p]);
            Check.due("the slide's own", 2, s.origin(2, p));
            Check.due("the layout's own", 1, s.origin(1, p));
        }
    }

    private static void originOfTheTheme() {
        SlideStage s = threeInSlot(7);
        s.shape(2, NONE);
        for (int p = 0; p < PROPERTIES; p++) {
            for (int shape = 0; shape < 4; shape++) {
                Check.due("origin(" + shape + ", " + p + ")", NONE, s.origin(shape, p));
            }
            s.theme(p, OTHER[p]);
            Check.due("a theme's that was told", NONE, s.origin(2, p));
        }
    }

    private static void originOfNoShape() {
        SlideStage none = Stages.withOneSlide();
        for (int shape : Check.beyond(0, -1)) {
            Check.out("origin(" + shape + ", 0) without shapes", () -> none.origin(shape, 0));
        }
        SlideStage s = Stages.withOneShape();
        for (int shape : Check.beyond(0, 0)) {
            Check.out("origin(" + shape + ", 0)", () -> s.origin(shape, 0));
        }
    }

    private static void originWithout() {
        SlideStage s = Stages.withOneShape();
        for (int property : Check.beyond(0, 6)) {
            Check.argument("origin(0, " + property + ")", () -> s.origin(0, property));
        }
    }

    /** Shape 0 on a master, 1 on its layout, 2 on a slide of that, all with one slot. */
    private static SlideStage threeInSlot(int slot) {
        SlideStage s = Stages.withOneSlide();
        for (int page = 0; page < 3; page++) {
            s.shape(page, slot);
        }
        return s;
    }

    private static void expect(SlideStage s, int shape, int property, int value, int from) {
        Check.due("resolved(" + shape + ", " + property + ")", value, s.resolved(shape, property));
        Check.due("origin(" + shape + ", " + property + ")", from, s.origin(shape, property));
    }
}
