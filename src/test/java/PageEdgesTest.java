/** The sentences on pages, shapes, slots and bindings that name a boundary case: a test for each. */
public final class PageEdgesTest {
    private static final int NONE = SlideStage.NONE;
    private static final int MASTER = 0;
    private static final int LAYOUT = 1;
    private static final int SLIDE = 2;

    public static void main(String[] args) {
        newObjects();
        pages();
        shapes();
        bindings();
        Check.end();
    }

    private static void newObjects() {
        Check.sentence("The public face", "public static final int NONE = -1;", PageEdgesTest::none);
        Check.sentence("Promise 1", "No pages", PageEdgesTest::noPages);
        Check.sentence("Promise 1", "the theme as said", PageEdgesTest::themeAsSaid);
    }

    private static void pages() {
        Check.sentence("Terms", "PAGES 0, 1, .. (at most 12) are MASTERS, LAYOUTS and SLIDES",
                PageEdgesTest::twelvePages);
        Check.sentence("Terms", "a layout has a master as its PARENT, a slide a layout",
                PageEdgesTest::parents);
        Check.sentence("Terms", "Slides are counted by themselves, too, as they were made.",
                PageEdgesTest::slidesByThemselves);
        Check.sentence("Promise 2", "A new page: kind 0 a master (parent is NONE), 1 a layout, 2 a slide;"
                + " answers its number.", PageEdgesTest::newPages);
        Check.sentence("Promise 2", "IllegalArgumentException when kind is another one",
                PageEdgesTest::otherKinds);
        Check.sentence("Promise 2", "IndexOutOfBoundsException when parent is not NONE",
                PageEdgesTest::parentsOfMasters);
        Check.sentence("Promise 2", "or no page of the kind that it must be",
                PageEdgesTest::parentsOfAnotherKind);
        Check.sentence("Promise 2", "IllegalStateException when there are 12",
                PageEdgesTest::noThirteenthPage);
    }

    private static void shapes() {
        Check.sentence("Terms", "SHAPES 0, 1, .. (at most 24) are on pages",
                PageEdgesTest::twentyFourShapes);
        Check.sentence("Terms", "each is FREE or has a SLOT 0 .. 7", PageEdgesTest::eightSlots);
        Check.sentence("Terms", "which no other one on its page has", PageEdgesTest::slotsOfAPage);
        Check.sentence("Promise 3", "A new shape on a page, free when slot is NONE; answers its number.",
                PageEdgesTest::newShapes);
        Check.sentence("Promise 3", "IndexOutOfBoundsException when there is no such page",
                PageEdgesTest::noSuchPage);
        Check.sentence("Promise 3", "IllegalArgumentException when slot is not -1 .. 7",
                PageEdgesTest::noSuchSlot);
        Check.sentence("Promise 3", "IllegalStateException when a shape on the page has it",
                PageEdgesTest::slotTaken);
        Check.sentence("Promise 3", "UnsupportedOperationException when there are 24",
                PageEdgesTest::noTwentyFifthShape);
    }

    private static void bindings() {
        Check.sentence("Promise 9", "The shape with the same slot on the parent of a shape's page",
                PageEdgesTest::bindingOfTheSameSlot);
        Check.sentence("Promise 9", "(not on the parent of that)", PageEdgesTest::bindingOfOneStep);
        Check.sentence("Promise 9", "NONE when there is none", PageEdgesTest::bindingOfNone);
        Check.sentence("Promise 9", "or the shape is free", PageEdgesTest::bindingOfFreeShapes);
        Check.sentence("Promise 9", "IndexOutOfBoundsException when there is no such shape",
                PageEdgesTest::bindingOfNoShape);
    }

    private static void none() {
        Check.due("NONE", -1, SlideStage.NONE);
    }

    private static void noPages() {
        // Another object that has much must leave nothing in a new one.
        SlideStage before = Stages.withSlides(10);
        before.shape(2, 0);
        before.effect(0, 0, 0, 0, 0);
        before.click();
        before.tick(9);
        SlideStage s = new SlideStage();
        for (int page : Check.beyond(0, -1)) {
            Check.out("a shape on page " + page, () -> s.shape(page, NONE));
            Check.out("a layout of page " + page, () -> s.page(LAYOUT, page));
            Check.out("a slide of page " + page, () -> s.page(SLIDE, page));
        }
        Check.out("no shape", () -> s.resolved(0, 0));
        Check.out("no effect", () -> s.timing(0, 0));
        Check.out("no slide", () -> s.jump(0));
        Check.due("the first page", 0, s.page(MASTER, NONE));
        Check.due("the first shape", 0, s.shape(0, NONE));
    }

    private static void themeAsSaid() {
        SlideStage before = new SlideStage();
        for (int p = 0; p < 7; p++) {
            before.theme(p, 3);
        }
        SlideStage s = new SlideStage();
        s.page(MASTER, NONE);
        s.shape(0, NONE);
        int[] theme = {0, 0, 8, 4, 0x808080, 255, 4};
        for (int p = 0; p < 7; p++) {
            Check.due("theme " + p, theme[p], s.resolved(0, p));
        }
    }

    private static void twelvePages() {
        for (int kind = MASTER; kind <= SLIDE; kind++) {
            SlideStage s = twelvePagesMostlyOf(kind);
            int thirteenth = kind;
            Check.state("a thirteenth", () -> s.page(thirteenth, thirteenth - 1));
            Check.due("a shape on the twelfth", 0, s.shape(11, NONE));
            Check.out("a shape on a thirteenth", () -> s.shape(12, NONE));
        }
    }

    /** A master, a layout of it, and ten more of a kind; their parents have the number kind - 1. */
    private static SlideStage twelvePagesMostlyOf(int kind) {
        SlideStage s = new SlideStage();
        Check.due("page 0", 0, s.page(MASTER, NONE));
        Check.due("page 1", 1, s.page(LAYOUT, 0));
        for (int n = 2; n < 12; n++) {
            Check.due("page " + n, n, s.page(kind, kind - 1));
        }
        return s;
    }

    private static void parents() {
        SlideStage s = new SlideStage();
        s.page(MASTER, NONE);
        s.page(MASTER, NONE);
        s.page(LAYOUT, 1);
        s.page(LAYOUT, 0);
        s.page(SLIDE, 3);
        s.page(SLIDE, 2);
        for (int page = 0; page < 6; page++) {
            s.shape(page, 0);
        }
        int[] parents = {NONE, NONE, 1, 0, 3, 2};
        for (int page = 0; page < 6; page++) {
            Check.due("parent of page " + page, parents[page], s.binding(page));
        }
    }

    private static void slidesByThemselves() {
        SlideStage s = Stages.withOneSlide();
        s.page(MASTER, NONE);
        s.page(LAYOUT, 3);
        s.page(SLIDE, 4);
        s.page(SLIDE, 1);
        int[] pages = {2, 5, 6};
        for (int k = 0; k < 3; k++) {
            s.set(s.shape(pages[k], NONE), 4, k + 1);
        }
        for (int k = 0; k < 3; k++) {
            s.jump(k);
            Check.due("the slide", k, s.state(0));
            Check.due("it is page " + pages[k], k + 1, s.pixel(0, 0));
        }
        Check.out("no slide 3", () -> s.jump(3));
        SlideStage most = Stages.withSlides(10);
        most.jump(9);
        Check.due("the tenth slide", 9, most.state(0));
        Check.out("no slide 10", () -> most.jump(10));
    }

    private static void newPages() {
        SlideStage s = new SlideStage();
        Check.due("a master", 0, s.page(MASTER, NONE));
        Check.due("a layout", 1, s.page(LAYOUT, 0));
        Check.due("a layout is no slide", NONE, s.state(0));
        Check.due("a slide", 2, s.page(SLIDE, 1));
        Check.due("a slide is one", 0, s.state(0));
        Check.due("another layout", 3, s.page(LAYOUT, 0));
        Check.due("another master", 4, s.page(MASTER, NONE));
        Check.due("another slide", 5, s.page(SLIDE, 3));
        Check.out("two slides in all", () -> s.jump(2));
    }

    private static void otherKinds() {
        SlideStage s = Stages.withOneSlide();
        for (int kind : Check.beyond(MASTER, SLIDE)) {
            for (int parent = NONE; parent < 4; parent++) {
                int of = parent;
                Check.argument("page(" + kind + ", " + of + ")", () -> s.page(kind, of));
            }
        }
        Check.due("none was made", 3, s.page(MASTER, NONE));
    }

    private static void parentsOfMasters() {
        SlideStage s = Stages.withOneSlide();
        int[] parents = {0, 1, 2, 3, -2, Integer.MIN_VALUE, Integer.MAX_VALUE};
        for (int parent : parents) {
            Check.out("page(0, " + parent + ")", () -> s.page(MASTER, parent));
        }
        Check.due("none was made", 3, s.page(MASTER, NONE));
    }

    private static void parentsOfAnotherKind() {
        SlideStage s = Stages.withOneSlide();
        int[] noMasters = {1, 2, NONE, -2, 3, 256, Integer.MIN_VALUE, Integer.MAX_VALUE};
        for (int parent : noMasters) {
            Check.out("page(1, " + parent + ")", () -> s.page(LAYOUT, parent));
        }
        int[] noLayouts = {0, 2, NONE, -2, 3, 257, Integer.MIN_VALUE + 1, Integer.MAX_VALUE};
        for (int parent : noLayouts) {
            Check.out("page(2, " + parent + ")", () -> s.page(SLIDE, parent));
        }
        Check.due("none was made", 3, s.page(MASTER, NONE));
        Check.out("nor a slide", () -> s.jump(1));
    }

    private static void noThirteenthPage() {
        for (int most = MASTER; most <= SLIDE; most++) {
            SlideStage s = twelvePagesMostlyOf(most);
            for (int kind = MASTER; kind <= SLIDE; kind++) {
                int another = kind;
                Check.state("a thirteenth, of kind " + kind, () -> s.page(another, another - 1));
            }
            Check.state("nor later", () -> s.page(MASTER, NONE));
        }
    }

    private static void twentyFourShapes() {
        SlideStage one = Stages.withOneSlide();
        SlideStage each = twelvePagesMostlyOf(SLIDE);
        for (int n = 0; n < 24; n++) {
            Check.due("all on one page", n, one.shape(SLIDE, NONE));
            Check.due("two on each of twelve", n, each.shape(n % 12, n < 12 ? NONE : 7));
        }
        Check.unsupported("a 25th on one page", () -> one.shape(SLIDE, NONE));
        Check.unsupported("a 25th on twelve", () -> each.shape(0, 0));
        Check.due("the last one", 4, one.resolved(23, 6));
        Check.due("the last one", 4, each.resolved(23, 6));
        Check.out("none behind it", () -> one.resolved(24, 6));
        Check.out("none behind it", () -> each.resolved(24, 6));
    }

    private static void eightSlots() {
        SlideStage s = Stages.withOneSlide();
        for (int slot = 0; slot < 8; slot++) {
            Check.due("slot " + slot + " of the layout", 2 * slot, s.shape(LAYOUT, slot));
            Check.due("slot " + slot + " of the slide", 2 * slot + 1, s.shape(SLIDE, slot));
        }
        for (int slot = 0; slot < 8; slot++) {
            Check.due("slot " + slot, 2 * slot, s.binding(2 * slot + 1));
        }
        Check.argument("no slot 8", () -> s.shape(SLIDE, 8));
        for (int n = 16; n < 24; n++) {
            Check.due("free beside them", n, s.shape(SLIDE, NONE));
        }
    }

    private static void slotsOfAPage() {
        SlideStage s = Stages.withSlides(2);
        for (int page = 0; page < 4; page++) {
            Check.due("slot 7 on page " + page, 2 * page, s.shape(page, 7));
            Check.due("slot 0 on page " + page, 2 * page + 1, s.shape(page, 0));
        }
        for (int page = 0; page < 4; page++) {
            int on = page;
            Check.state("slot 7 again on page " + page, () -> s.shape(on, 7));
            Check.state("slot 0 again on page " + page, () -> s.shape(on, 0));
        }
    }

    private static void newShapes() {
        SlideStage s = Stages.withOneSlide();
        for (int n = 0; n < 12; n++) {
            Check.due("free, as many as one likes", n, s.shape(n % 3, NONE));
            Check.due("bound to nothing", NONE, s.binding(n));
        }
        Check.due("with a slot", 12, s.shape(LAYOUT, 4));
        Check.due("with a slot", 13, s.shape(SLIDE, 4));
        Check.due("bound", 12, s.binding(13));
    }

    private static void noSuchPage() {
        SlideStage none = new SlideStage();
        for (int page : Check.beyond(0, -1)) {
            Check.out("shape(" + page + ", 0) without pages", () -> none.shape(page, 0));
        }
        SlideStage s = Stages.withOneSlide();
        for (int page : Check.beyond(0, 2)) {
            Check.out("shape(" + page + ", 0)", () -> s.shape(page, 0));
            Check.out("shape(" + page + ", NONE)", () -> s.shape(page, NONE));
        }
        Check.due("none was made", 0, s.shape(2, 0));
    }

    private static void noSuchSlot() {
        SlideStage s = Stages.withOneSlide();
        for (int page = 0; page < 3; page++) {
            for (int slot : Check.beyond(NONE, 7)) {
                int on = page;
                Check.argument("shape(" + page + ", " + slot + ")", () -> s.shape(on, slot));
            }
        }
        Check.due("none was made", 0, s.shape(2, NONE));
    }

    private static void slotTaken() {
        SlideStage s = Stages.withOneSlide();
        s.shape(SLIDE, NONE);
        for (int slot = 0; slot < 8; slot++) {
            int same = slot;
            Check.due("slot " + slot, slot + 1, s.shape(SLIDE, slot));
            Check.state("slot " + slot + " again", () -> s.shape(SLIDE, same));
        }
        Check.state("slot 0 still", () -> s.shape(SLIDE, 0));
        Check.due("NONE is no slot to be taken", 9, s.shape(SLIDE, NONE));
    }

    private static void noTwentyFifthShape() {
        SlideStage s = Stages.withOneSlide();
        for (int n = 0; n < 24; n++) {
            s.shape(n % 3, NONE);
        }
        for (int page = 0; page < 3; page++) {
            int on = page;
            Check.unsupported("free on page " + page, () -> s.shape(on, NONE));
            Check.unsupported("slot 0 on page " + page, () -> s.shape(on, 0));
            Check.unsupported("slot 7 on page " + page, () -> s.shape(on, 7));
        }
        Check.out("there is none", () -> s.binding(24));
    }

    private static void bindingOfTheSameSlot() {
        for (int slot = 0; slot < 8; slot++) {
            SlideStage s = Stages.withOneSlide();
            s.shape(SLIDE, slot);
            s.shape(LAYOUT, (slot + 1) % 8);
            Check.due("only another slot", NONE, s.binding(0));
            Check.due("made later", 2, s.shape(LAYOUT, slot));
            Check.due("bound then", 2, s.binding(0));
            s.shape(MASTER, slot);
            Check.due("to the layout still", 2, s.binding(0));
            Check.due("the layout to the master", 3, s.binding(2));
        }
    }

    private static void bindingOfOneStep() {
        SlideStage s = Stages.withOneSlide();
        s.shape(MASTER, 6);
        s.shape(SLIDE, 6);
        s.set(0, 0, 9);
        Check.due("not to the master", NONE, s.binding(1));
        Check.due("though its property is from there", 0, s.origin(1, 0));
    }

    private static void bindingOfNone() {
        SlideStage s = Stages.withSlides(2);
        s.shape(MASTER, 1);
        Check.due("a master has no parent", NONE, s.binding(0));
        s.shape(LAYOUT, 2);
        Check.due("none on the master", NONE, s.binding(1));
        s.shape(3, 3);
        s.shape(SLIDE, 3);
        Check.due("a slide beside it is no parent", NONE, s.binding(3));
        s.page(LAYOUT, 0);
        s.shape(4, 3);
        Check.due("nor is another layout", NONE, s.binding(3));
    }

    private static void bindingOfFreeShapes() {
        SlideStage s = Stages.withOneSlide();
        for (int page = 0; page < 3; page++) {
            s.shape(page, NONE);
            s.shape(page, 0);
        }
        Check.due("free on the master", NONE, s.binding(0));
        Check.due("free on the layout", NONE, s.binding(2));
        Check.due("free on the slide", NONE, s.binding(4));
    }

    private static void bindingOfNoShape() {
        SlideStage none = Stages.withOneSlide();
        for (int shape : Check.beyond(0, -1)) {
            Check.out("binding(" + shape + ") without shapes", () -> none.binding(shape));
        }
        SlideStage s = Stages.withOneShape();
        for (int shape : Check.beyond(0, 0)) {
            Check.out("binding(" + shape + ")", () -> s.binding(shape));
        }
    }
}
