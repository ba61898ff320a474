/** Promises 1 to 3 and 9: a new object, pages, shapes and their bindings. */
public final class PagesAndShapesTest {
    public static void main(String[] args) {
        newObject();
        pageKindsAndParents();
        pageWrongInputs();
        pageLimit();
        shapeNumbersAndSlots();
        shapeWrongInputs();
        shapeLimit();
        bindings();
        Check.end();
    }

    private static void newObject() {
        SlideStage s = new SlideStage();
        Check.due("1 NONE", -1, SlideStage.NONE);
        Check.due("1 state(0)", -1, s.state(0));
        for (int what = 1; what <= 4; what++) {
            Check.due("1 state(" + what + ")", 0, s.state(what));
        }
        Check.out("1 shape on no page", () -> s.shape(0, -1));
        Check.out("1 resolved of no shape", () -> s.resolved(0, 0));
        Check.out("1 timing of no effect", () -> s.timing(0, 0));
        Check.due("1 first page", 0, s.page(0, -1));
        Check.due("1 first shape", 0, s.shape(0, -1));
        int[] theme = {0, 0, 8, 4, 0x808080, 255, 4};
        for (int p = 0; p < 7; p++) {
            Check.due("1 theme " + p, theme[p], s.resolved(0, p));
            Check.due("1 from the theme " + p, -1, s.origin(0, p));
        }
        SlideStage other = new SlideStage();
        Check.due("1 objects share nothing", 0, other.page(0, -1));
    }

    private static void pageKindsAndParents() {
        SlideStage s = new SlideStage();
        Check.due("2 master", 0, s.page(0, -1));
        Check.due("2 layout", 1, s.page(1, 0));
        Check.due("2 no slide yet", -1, s.state(0));
        Check.due("2 slide", 2, s.page(2, 1));
        Check.due("2 the show is at it", 0, s.state(0));
        Check.due("2 another slide", 3, s.page(2, 1));
        Check.due("2 the show stays", 0, s.state(0));
        Check.due("2 another master", 4, s.page(0, -1));
        Check.due("2 its layout", 5, s.page(1, 4));
    }

    private static void pageWrongInputs() {
        SlideStage s = Stages.withOneSlide();
        Check.argument("2 kind -1", () -> s.page(-1, -1));
        Check.argument("2 kind 3", () -> s.page(3, 1));
        Check.argument("2 kind goes before parent", () -> s.page(3, 99));
        Check.out("2 master with a parent", () -> s.page(0, 0));
        Check.out("2 master with parent -2", () -> s.page(0, -2));
        Check.out("2 layout without a parent", () -> s.page(1, -1));
        Check.out("2 layout of a layout", () -> s.page(1, 1));
        Check.out("2 layout of a slide", () -> s.page(1, 2));
        Check.out("2 layout of no page", () -> s.page(1, 3));
        Check.out("2 layout of a far page", () -> s.page(1, Integer.MAX_VALUE));
        Check.out("2 slide without a parent", () -> s.page(2, -1));
        Check.out("2 slide of a master", () -> s.page(2, 0));
        Check.out("2 slide of a slide", () -> s.page(2, 2));
        Check.out("2 slide of a page far below", () -> s.page(2, Integer.MIN_VALUE));
        Check.due("2 nothing was made", 3, s.page(0, -1));
    }

    private static void pageLimit() {
        SlideStage s = Stages.withOneSlide();
        for (int k = 3; k < 12; k++) {
            Check.due("2 page " + k, k, s.page(k % 3 == 0 ? 0 : 2, k % 3 == 0 ? -1 : 1));
        }
        Check.state("2 page 12, a master", () -> s.page(0, -1));
        Check.state("2 page 12, a slide", () -> s.page(2, 1));
        Check.argument("2 kind goes before the limit", () -> s.page(4, -1));
        Check.out("2 parent goes before the limit", () -> s.page(2, 0));
        Check.out("2 there is no page 12", () -> s.shape(12, -1));
    }

    private static void shapeNumbersAndSlots() {
        SlideStage s = Stages.withOneSlide();
        Check.due("3 free on a slide", 0, s.shape(2, -1));
        Check.due("3 another free", 1, s.shape(2, -1));
        Check.due("3 slot 0", 2, s.shape(2, 0));
        Check.due("3 slot 7", 3, s.shape(2, 7));
        Check.due("3 slot 7 on another page", 4, s.shape(1, 7));
        Check.due("3 and on another", 5, s.shape(0, 7));
    }

    private static void shapeWrongInputs() {
        SlideStage s = Stages.withOneSlide();
        s.shape(2, 3);
        Check.out("3 page -1", () -> s.shape(-1, 0));
        Check.out("3 page 3", () -> s.shape(3, 0));
        Check.out("3 page goes before slot", () -> s.shape(3, 8));
        Check.argument("3 slot 8", () -> s.shape(2, 8));
        Check.argument("3 slot -2", () -> s.shape(2, -2));
        Check.state("3 slot taken", () -> s.shape(2, 3));
        Check.due("3 nothing was made", 1, s.shape(2, 4));
    }

    private static void shapeLimit() {
        SlideStage s = Stages.withOneSlide();
        s.shape(2, 0);
        for (int k = 1; k < 24; k++) {
            Check.due("3 shape " + k, k, s.shape(k % 3, -1));
        }
        Check.unsupported("3 shape 24", () -> s.shape(2, -1));
        Check.unsupported("3 shape 24 with a slot", () -> s.shape(2, 1));
        Check.state("3 a taken slot goes before the limit", () -> s.shape(2, 0));
        Check.argument("3 a wrong slot goes before the limit", () -> s.shape(2, 9));
        Check.out("3 a wrong page goes before the limit", () -> s.shape(5, 0));
        Check.out("3 there is no shape 24", () -> s.binding(24));
    }

    private static void bindings() {
        SlideStage s = Stages.withOneSlide();
        int onMaster = s.shape(0, 5);
        int onSlide = s.shape(2, 5);
        Check.due("9 not on the parent of the parent", -1, s.binding(onSlide));
        int onLayout = s.shape(1, 5);
        Check.due("9 slide to layout", onLayout, s.binding(onSlide));
        Check.due("9 layout to master", onMaster, s.binding(onLayout));
        Check.due("9 master", -1, s.binding(onMaster));
        int other = s.shape(2, 6);
        Check.due("9 no such slot there", -1, s.binding(other));
        s.shape(1, -1);
        int free = s.shape(2, -1);
        Check.due("9 free", -1, s.binding(free));
        s.page(0, -1);
        s.page(1, 3);
        s.page(2, 4);
        int elsewhere = s.shape(5, 5);
        Check.due("9 only on its own parent", -1, s.binding(elsewhere));
        Check.out("9 shape -1", () -> s.binding(-1));
        Check.out("9 shape beyond", () -> s.binding(elsewhere + 1));
    }
}
