/** Promises 4 to 8: the theme, own properties, what is resolved and where it is from. */
public final class PropertiesTest {
    private static final int[] LEAST = {-40, -40, 0, 0, 0, 0, 1};
    private static final int[] GREATEST = {40, 40, 40, 40, 0xFFFFFF, 255, 4};

    public static void main(String[] args) {
        themeAsItIsThen();
        limitsOfValues();
        wrongInputs();
        setAndUnset();
        chainOfSlots();
        chainSkipsMissingShapes();
        freeShapesTakeTheTheme();
        otherParentsAreNotAsked();
        Check.end();
    }

    private static void themeAsItIsThen() {
        SlideStage s = Stages.withOneShape();
        s.theme(0, 7);
        Check.due("4 X of the theme", 7, s.resolved(0, 0));
        s.theme(0, -3);
        Check.due("4 X of the theme, again", -3, s.resolved(0, 0));
        Check.due("4 the others stay", 8, s.resolved(0, 2));
        s.write(0, 0, 0x04040404);
        s.theme(2, 40);
        s.theme(3, 8);
        Check.due("4 texts fit as the theme is", 4, s.scale(0));
        s.theme(3, 3);
        Check.due("4 texts fit as the theme is then", 2, s.scale(0));
        s.theme(6, 1);
        s.theme(3, 40);
        Check.due("4 SCALE of the theme", 1, s.scale(0));
        s.theme(4, 0x123456);
        Check.due("4 the picture, too", 0x123456, s.pixel(0, 0));
    }

    private static void limitsOfValues() {
        SlideStage s = Stages.withOneShape();
        for (int p = 0; p < 7; p++) {
            int property = p;
            s.theme(p, LEAST[p]);
            Check.due("4 least of " + p, LEAST[p], s.resolved(0, p));
            s.theme(p, GREATEST[p]);
            Check.due("4 greatest of " + p, GREATEST[p], s.resolved(0, p));
            s.set(0, p, LEAST[p]);
            Check.due("5 least of " + p, LEAST[p], s.resolved(0, p));
            s.set(0, p, GREATEST[p]);
            Check.due("5 greatest of " + p, GREATEST[p], s.resolved(0, p));
            Check.argument("4 below " + p, () -> s.theme(property, LEAST[property] - 1));
            Check.argument("4 above " + p, () -> s.theme(property, GREATEST[property] + 1));
            Check.argument("5 below " + p, () -> s.set(0, property, LEAST[property] - 1));
            Check.argument("5 above " + p, () -> s.set(0, property, GREATEST[property] + 1));
            Check.due("5 stays " + p, GREATEST[p], s.resolved(0, p));
            s.unset(0, p);
            Check.due("4 stays " + p, GREATEST[p], s.resolved(0, p));
        }
    }

    private static void wrongInputs() {
        SlideStage s = Stages.withOneShape();
        int[] noProperties = {-1, 7, Integer.MIN_VALUE, Integer.MAX_VALUE};
        for (int p : noProperties) {
            Check.argument("4 theme " + p, () -> s.theme(p, 0));
            Check.argument("5 set " + p, () -> s.set(0, p, 0));
            Check.argument("6 unset " + p, () -> s.unset(0, p));
            Check.argument("7 resolved " + p, () -> s.resolved(0, p));
            Check.argument("8 origin " + p, () -> s.origin(0, p));
        }
        int[] noShapes = {-1, 1, Integer.MIN_VALUE, Integer.MAX_VALUE};
        for (int shape : noShapes) {
            Check.out("5 set of " + shape, () -> s.set(shape, 0, 0));
            Check.out("5 shape goes before value", () -> s.set(shape, 0, 99));
            Check.out("5 shape goes before property", () -> s.set(shape, 9, 0));
            Check.out("6 unset of " + shape, () -> s.unset(shape, 0));
            Check.out("6 shape goes before property", () -> s.unset(shape, 9));
            Check.out("7 resolved of " + shape, () -> s.resolved(shape, 0));
            Check.out("7 shape goes before property", () -> s.resolved(shape, 9));
            Check.out("8 origin of " + shape, () -> s.origin(shape, 0));
            Check.out("8 shape goes before property", () -> s.origin(shape, 9));
        }
    }

    private static void setAndUnset() {
        SlideStage s = Stages.withOneShape();
        Check.due("6 had none", false, s.unset(0, 0));
        s.set(0, 0, 0);
        Check.due("8 its own, though as the theme's", 0, s.origin(0, 0));
        s.set(0, 0, 9);
        Check.due("5 X", 9, s.resolved(0, 0));
        Check.due("5 Y stays", 0, s.resolved(0, 1));
        Check.due("8 Y is the theme's", -1, s.origin(0, 1));
        s.theme(0, 4);
        Check.due("7 its own goes before the theme", 9, s.resolved(0, 0));
        Check.due("6 unset of another", false, s.unset(0, 1));
        Check.due("6 had it", true, s.unset(0, 0));
        Check.due("7 the theme's again", 4, s.resolved(0, 0));
        Check.due("8 the theme's again", -1, s.origin(0, 0));
        Check.due("6 no longer", false, s.unset(0, 0));
    }

    private static void chainOfSlots() {
        SlideStage s = Stages.withOneSlide();
        int master = s.shape(0, 2);
        int layout = s.shape(1, 2);
        int slide = s.shape(2, 2);
        s.set(master, 0, 1);
        expect(s, slide, 1, master);
        expect(s, layout, 1, master);
        s.set(layout, 0, 2);
        expect(s, slide, 2, layout);
        expect(s, layout, 2, layout);
        expect(s, master, 1, master);
        s.set(slide, 0, 3);
        expect(s, slide, 3, slide);
        s.unset(layout, 0);
        expect(s, slide, 3, slide);
        s.unset(slide, 0);
        expect(s, slide, 1, master);
        s.unset(master, 0);
        expect(s, slide, 0, -1);
        Check.due("8 each property by itself", -1, s.origin(slide, 1));
    }

    private static void chainSkipsMissingShapes() {
        SlideStage s = Stages.withOneSlide();
        int slide = s.shape(2, 2);
        int master = s.shape(0, 2);
        s.set(master, 0, 6);
        expect(s, slide, 6, master);
        int otherSlot = s.shape(1, 3);
        s.set(otherSlot, 0, 7);
        expect(s, slide, 6, master);
        int layout = s.shape(1, 2);
        expect(s, slide, 6, master);
        s.set(layout, 0, 8);
        expect(s, slide, 8, layout);
    }

    private static void freeShapesTakeTheTheme() {
        SlideStage s = Stages.withOneSlide();
        int above = s.shape(1, -1);
        int free = s.shape(2, -1);
        s.set(above, 0, 5);
        expect(s, free, 0, -1);
        s.set(free, 0, 6);
        expect(s, free, 6, free);
    }

    private static void otherParentsAreNotAsked() {
        SlideStage s = Stages.withOneSlide();
        int otherMaster = s.page(0, -1);
        int otherLayout = s.page(1, otherMaster);
        int otherSlide = s.page(2, otherLayout);
        s.set(s.shape(0, 1), 0, 5);
        s.set(s.shape(1, 1), 0, 6);
        int sibling = s.shape(2, 1);
        s.set(sibling, 0, 7);
        int shape = s.shape(otherSlide, 1);
        expect(s, shape, 0, -1);
        int its = s.shape(otherMaster, 1);
        s.set(its, 0, 9);
        expect(s, shape, 9, its);
    }

    private static void expect(SlideStage s, int shape, int value, int from) {
        Check.due("7 resolved(" + shape + ", 0)", value, s.resolved(shape, 0));
        Check.due("8 origin(" + shape + ", 0)", from, s.origin(shape, 0));
    }
}
