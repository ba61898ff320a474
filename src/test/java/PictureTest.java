/** Promises 23 and 24: properties now, and the picture. */
public final class PictureTest {
    private static final int WHITE = 0xFFFFFF;

    public static void main(String[] args) {
        movesAddUp();
        movesAreCutOffTowardsZero();
        entering();
        leaving();
        enterAndLeaveInTurn();
        movesDoNotHide();
        otherPropertiesAndPages();
        nowWrongInputs();
        emptyPicture();
        edgesOfShapes();
        shapesPartlyOffThePicture();
        mixing();
        orderOfPages();
        slotsOfLayoutsAreNotShown();
        pictureOfTheSlideAtHand();
        Check.end();
    }

    private static void movesAddUp() {
        SlideStage s = Stages.withOneShape();
        s.set(0, 0, 3);
        move(s, 2, 1, 0, 4, 8);
        move(s, 2, 2, 0, 4, -20);
        move(s, 3, 1, 0, 8, 16);
        Check.due("23 X at 0", 3, s.now(0, 0));
        s.tick(3);
        Check.due("23 X at 3", 9, s.now(0, 0));
        s.tick(1);
        Check.due("23 X at 4", 11, s.now(0, 0));
        Check.due("23 Y at 4", 0, s.now(0, 1));
        s.tick(2);
        Check.due("23 X at 6", 1, s.now(0, 0));
        Check.due("23 Y at 6", 4, s.now(0, 1));
        s.tick(9);
        Check.due("23 X at the end", -9, s.now(0, 0));
        Check.due("23 Y at the end", 16, s.now(0, 1));
        Check.due("7 resolved X stays", 3, s.resolved(0, 0));
    }

    private static void movesAreCutOffTowardsZero() {
        SlideStage s = Stages.withOneShape();
        move(s, 2, 1, 0, 4, -7);
        move(s, 3, 1, 0, 4, 7);
        s.tick(1);
        Check.due("23 -7/4", -1, s.now(0, 0));
        Check.due("23 7/4", 1, s.now(0, 1));
        s.tick(1);
        Check.due("23 -14/4", -3, s.now(0, 0));
        Check.due("23 14/4", 3, s.now(0, 1));
        SlideStage two = Stages.withOneShape();
        move(two, 2, 1, 0, 2, 1);
        move(two, 2, 1, 0, 2, 1);
        two.tick(1);
        Check.due("23 each is cut off by itself", 0, two.now(0, 0));
    }

    private static void entering() {
        SlideStage s = Stages.withOneShape();
        s.set(0, 5, 101);
        s.effect(0, 0, 0, 1, 2);
        Check.due("23 hidden before", 0, s.now(0, 5));
        s.tick(9);
        Check.due("23 hidden before its click", 0, s.now(0, 5));
        s.click();
        Check.due("23 hidden before its start", 0, s.now(0, 5));
        s.tick(1);
        Check.due("23 at its start", 0, s.now(0, 5));
        s.tick(1);
        Check.due("23 half", 50, s.now(0, 5));
        s.tick(1);
        Check.due("23 done", 101, s.now(0, 5));
    }

    private static void leaving() {
        SlideStage s = Stages.withOneShape();
        s.set(0, 5, 101);
        s.effect(0, 1, 1, 1, 2);
        Check.due("23 there before", 101, s.now(0, 5));
        s.tick(1);
        Check.due("23 at its start", 101, s.now(0, 5));
        s.tick(1);
        Check.due("23 half, what goes is cut off", 51, s.now(0, 5));
        s.tick(1);
        Check.due("23 gone", 0, s.now(0, 5));
    }

    private static void enterAndLeaveInTurn() {
        SlideStage s = Stages.withOneShape();
        s.effect(0, 1, 0, 0, 2);
        s.effect(0, 0, 0, 0, 5);
        s.effect(0, 1, 1, 3, 0);
        Check.due("23 a LEAVE is first", 255, s.now(0, 5));
        s.click();
        s.tick(2);
        Check.due("23 left", 0, s.now(0, 5));
        s.click();
        s.tick(2);
        Check.due("23 enters again", 102, s.now(0, 5));
        s.tick(1);
        Check.due("23 the last in turn counts", 0, s.now(0, 5));
        s.tick(2);
        Check.due("23 still", 0, s.now(0, 5));
        SlideStage other = Stages.withOneShape();
        other.effect(0, 1, 1, 3, 0);
        other.effect(0, 0, 1, 0, 5);
        other.tick(4);
        Check.due("23 the ENTER is last in turn", 204, other.now(0, 5));
    }

    private static void movesDoNotHide() {
        SlideStage s = Stages.withOneShape();
        s.shape(2, -1);
        move(s, 2, 1, 0, 1, 3);
        s.effect(0, 0, 1, 2, 0);
        Check.due("23 the first ENTER or LEAVE is an ENTER", 0, s.now(0, 5));
        Check.due("23 another shape's effects do nothing", 255, s.now(1, 5));
        s.tick(2);
        Check.due("23 there", 255, s.now(0, 5));
        Check.due("23 another shape does not move", 0, s.now(1, 0));
        SlideStage moving = Stages.withOneShape();
        move(moving, 3, 0, 0, 1, 3);
        Check.due("23 a MOVE hides nothing", 255, moving.now(0, 5));
    }

    private static void otherPropertiesAndPages() {
        SlideStage s = Stages.withSlides(2);
        int layout = s.shape(1, 0);
        int slide = s.shape(2, 0);
        s.set(layout, 0, 6);
        s.set(layout, 5, 200);
        s.set(layout, 4, 77);
        move(s, slide, 2, 1, 0, 0, 5);
        s.effect(slide, 1, 1, 0, 0);
        Check.due("23 X of the layout and the move", 11, s.now(slide, 0));
        Check.due("23 left", 0, s.now(slide, 5));
        Check.due("23 COLOR", 77, s.now(slide, 4));
        Check.due("23 WIDTH", 8, s.now(slide, 2));
        Check.due("23 HEIGHT", 4, s.now(slide, 3));
        Check.due("23 SCALE", 4, s.now(slide, 6));
        Check.due("23 the layout's does not move", 6, s.now(layout, 0));
        s.jump(1);
        Check.due("23 X at another slide", 6, s.now(slide, 0));
        Check.due("23 ALPHA at another slide", 200, s.now(slide, 5));
    }

    private static void nowWrongInputs() {
        SlideStage s = Stages.withOneShape();
        Check.out("23 shape -1", () -> s.now(-1, 0));
        Check.out("23 shape 1", () -> s.now(1, 0));
        Check.out("23 shape goes first", () -> s.now(1, 7));
        Check.argument("23 property -1", () -> s.now(0, -1));
        Check.argument("23 property 7", () -> s.now(0, 7));
    }

    private static void emptyPicture() {
        SlideStage s = new SlideStage();
        s.page(0, -1);
        s.shape(0, -1);
        expectCornersAndBeyond(s);
        s.page(1, 0);
        expectCornersAndBeyond(s);
        s.page(2, 1);
        Check.due("24 a slide shows its master", 0x808080, s.pixel(0, 0));
        s.set(0, 5, 0);
        expectCornersAndBeyond(s);
    }

    private static void expectCornersAndBeyond(SlideStage s) {
        Check.due("24 first", WHITE, s.pixel(0, 0));
        Check.due("24 last", WHITE, s.pixel(23, 15));
        Check.due("24 left of it", -1, s.pixel(-1, 0));
        Check.due("24 right of it", -1, s.pixel(24, 0));
        Check.due("24 above it", -1, s.pixel(0, -1));
        Check.due("24 below it", -1, s.pixel(0, 16));
        Check.due("24 far", -1, s.pixel(Integer.MAX_VALUE, Integer.MIN_VALUE));
    }

    private static void edgesOfShapes() {
        SlideStage s = Stages.withOneShape();
        place(s, 0, 5, 3, 2, 6, 0);
        Check.due("24 first point", 0, s.pixel(5, 3));
        Check.due("24 last point", 0, s.pixel(6, 8));
        Check.due("24 left", WHITE, s.pixel(4, 3));
        Check.due("24 right", WHITE, s.pixel(7, 3));
        Check.due("24 above", WHITE, s.pixel(5, 2));
        Check.due("24 below", WHITE, s.pixel(5, 9));
        s.set(0, 2, 0);
        Check.due("24 no width", WHITE, s.pixel(5, 3));
        s.set(0, 2, 1);
        s.set(0, 3, 0);
        Check.due("24 no height", WHITE, s.pixel(5, 3));
    }

    private static void shapesPartlyOffThePicture() {
        SlideStage s = Stages.withOneShape();
        place(s, 0, -2, -3, 4, 5, 9);
        Check.due("24 in the corner", 9, s.pixel(1, 1));
        Check.due("24 beside", WHITE, s.pixel(2, 1));
        Check.due("24 under", WHITE, s.pixel(1, 2));
        place(s, 0, 20, 12, 40, 40, 9);
        Check.due("24 in the last corner", 9, s.pixel(23, 15));
        Check.due("24 not beyond", -1, s.pixel(24, 15));
        place(s, 0, -40, 0, 40, 16, 9);
        Check.due("24 wholly off it", WHITE, s.pixel(0, 0));
    }

    private static void mixing() {
        SlideStage s = Stages.withOneShape();
        place(s, 0, 0, 0, 24, 16, 0x00FF80);
        s.set(0, 5, 100);
        Check.due("24 over white", 155 << 16 | 255 << 8 | 205, s.pixel(0, 0));
        s.shape(2, -1);
        place(s, 1, 0, 0, 1, 1, 0xC80064);
        s.set(1, 5, 1);
        Check.due("24 over that", 155 << 16 | 254 << 8 | 205, s.pixel(0, 0));
        s.set(1, 5, 254);
        Check.due("24 nearly all of it", 200 << 16 | 1 << 8 | 100, s.pixel(0, 0));
        s.set(1, 5, 255);
        Check.due("24 all of it", 0xC80064, s.pixel(0, 0));
        SlideStage faint = Stages.withOneShape();
        faint.set(0, 4, 0x7F8000);
        faint.set(0, 5, 1);
        Check.due("24 from 128 parts of 255 on it counts as one more", 0xFEFFFE, faint.pixel(0, 0));
    }

    private static void orderOfPages() {
        SlideStage s = Stages.withOneSlide();
        int first = s.shape(2, 1);
        int second = s.shape(2, -1);
        int layout = s.shape(1, -1);
        int master = s.shape(0, -1);
        int third = s.shape(2, 0);
        place(s, first, 0, 0, 1, 5, 1);
        place(s, second, 0, 0, 1, 4, 2);
        place(s, third, 0, 0, 1, 3, 3);
        place(s, layout, 0, 0, 1, 6, 4);
        place(s, master, 0, 0, 1, 7, 5);
        int[] due = {3, 3, 3, 2, 1, 4, 5, WHITE};
        for (int y = 0; y < due.length; y++) {
            Check.due("24 order at " + y, due[y], s.pixel(0, y));
        }
    }

    private static void slotsOfLayoutsAreNotShown() {
        SlideStage s = Stages.withOneSlide();
        s.shape(0, 0);
        s.shape(1, 3);
        Check.due("24 slots of masters and layouts", WHITE, s.pixel(0, 0));
        int slide = s.shape(2, 3);
        s.set(1, 4, 0x010203);
        Check.due("24 that of the slide", 0x010203, s.pixel(0, 0));
        s.set(slide, 0, 1);
        Check.due("24 moved away", WHITE, s.pixel(0, 0));
    }

    private static void pictureOfTheSlideAtHand() {
        SlideStage s = Stages.withSlides(2);
        s.page(0, -1);
        s.page(1, 4);
        s.page(2, 5);
        place(s, s.shape(1, -1), 0, 0, 1, 1, 1);
        place(s, s.shape(2, -1), 1, 0, 1, 1, 2);
        place(s, s.shape(3, -1), 2, 0, 1, 1, 3);
        place(s, s.shape(4, -1), 3, 0, 1, 1, 4);
        move(s, 1, 3, 1, 0, 2, 2);
        expectRow(s, 1, 2, WHITE, WHITE);
        s.tick(1);
        expectRow(s, 1, WHITE, WHITE, WHITE);
        Check.due("24 moved", 2, s.pixel(1, 1));
        s.click();
        expectRow(s, 1, WHITE, 3, WHITE);
        s.click();
        expectRow(s, WHITE, WHITE, WHITE, 4);
        s.jump(0);
        s.effect(1, 1, 1, 0, 2);
        s.amount(0, 0);
        s.tick(1);
        Check.due("24 ALPHA now", 0x7F7F80, s.pixel(1, 0));
    }

    private static void expectRow(SlideStage s, int a, int b, int c, int d) {
        int[] due = {a, b, c, d};
        for (int x = 0; x < due.length; x++) {
            Check.due("24 point " + x, due[x], s.pixel(x, 0));
        }
    }

    private static void place(SlideStage s, int shape, int x, int y, int width, int height, int color) {
        int[] values = {x, y, width, height, color};
        for (int p = 0; p < values.length; p++) {
            s.set(shape, p, values[p]);
        }
    }

    private static void move(SlideStage s, int kind, int trigger, int delay, int duration, int amount) {
        move(s, 0, kind, trigger, delay, duration, amount);
    }

    private static void move(
            SlideStage s, int shape, int kind, int trigger, int delay, int duration, int amount) {
        s.amount(s.effect(shape, kind, trigger, delay, duration), amount);
    }
}
