/** The sentences on what is now and on the picture that name a boundary case: a test for each. */
public final class PictureEdgesTest {
    private static final int NONE = SlideStage.NONE;
    private static final int WHITE = 0xFFFFFF;
    private static final int X = 0;
    private static final int Y = 1;
    private static final int WIDTH = 2;
    private static final int HEIGHT = 3;
    private static final int COLOR = 4;
    private static final int ALPHA = 5;
    private static final int ENTER = 0;
    private static final int LEAVE = 1;
    private static final int MOVE_X = 2;
    private static final int MOVE_Y = 3;
    private static final int CLICK = 0;
    private static final int WITH = 1;

    public static void main(String[] args) {
        moves();
        alphas();
        otherPages();
        thePicture();
        mixing();
        asking();
        Check.end();
    }

    private static void moves() {
        Check.sentence("Terms", "X grows by the amount of each MOVE X on it that is done",
                () -> doneMoves(MOVE_X, X));
        Check.sentence("Terms", "and of each that runs by amount * PASSED / DURATION, cut off towards 0",
                () -> runningMoves(MOVE_X, X));
        Check.sentence("Terms", "Y likewise", () -> {
            doneMoves(MOVE_Y, Y);
            runningMoves(MOVE_Y, Y);
        });
        Check.sentence("Terms", "PASSED is the time less its start then", PictureEdgesTest::passed);
    }

    private static void alphas() {
        Check.sentence("Terms", "ALPHA, A being the resolved one, is at first 0 if the first ENTER or LEAVE"
                + " on it is an ENTER, else A", PictureEdgesTest::alphaAtFirst);
        Check.sentence("Terms", "then for each ENTER on it in turn it becomes A if that is done",
                PictureEdgesTest::alphaEntered);
        Check.sentence("Terms", "and A * PASSED / DURATION, cut off, if it runs",
                PictureEdgesTest::alphaEntering);
        Check.sentence("Terms", "for each LEAVE 0", PictureEdgesTest::alphaLeft);
        Check.sentence("Terms", "or A less A * PASSED / DURATION, cut off",
                PictureEdgesTest::alphaLeaving);
    }

    private static void otherPages() {
        Check.sentence("Terms", "a shape on that slide has the resolved properties",
                PictureEdgesTest::resolvedOnThatSlide);
        Check.sentence("Terms", "Shapes on other pages have the resolved ones.",
                PictureEdgesTest::resolvedOnOtherPages);
    }

    private static void thePicture() {
        Check.sentence("Terms", "THE PICTURE is 24 wide and 16 high", PictureEdgesTest::edgesOfThePicture);
        Check.sentence("Terms", "white (0xFFFFFF) where nothing is", PictureEdgesTest::whiteWhereNothingIs);
        Check.sentence("Terms", "On it come, one over the other: the free shapes of the master, of the"
                + " layout, and all shapes of the slide", PictureEdgesTest::pagesOfThePicture);
        Check.sentence("Terms", "on each page by their numbers", PictureEdgesTest::orderOnAPage);
        Check.sentence("Terms", "A shape covers the points from its X, Y (now) on, so many as its WIDTH and"
                + " HEIGHT", PictureEdgesTest::pointsOfAShape);
    }

    private static void mixing() {
        Check.sentence("Terms", "there each of the three parts c of its color changes what there is, d, to"
                + " (c * ALPHA + d * (255 - ALPHA) + 127) / 255, cut off", PictureEdgesTest::partsMixed);
        Check.sentence("Terms", "(red, green and blue from 0 to 255, eight bits each, red the highest)",
                PictureEdgesTest::partsOfAColor);
    }

    private static void asking() {
        Check.sentence("Promise 23", "A property of a shape now.", PictureEdgesTest::nowOfEach);
        Check.sentence("Promise 23", "IndexOutOfBoundsException when there is no such shape",
                PictureEdgesTest::nowOfNoShape);
        Check.sentence("Promise 23", "IllegalArgumentException when there is no such property",
                PictureEdgesTest::nowWithout);
        Check.sentence("Promise 24", "(white without a slide)", PictureEdgesTest::whiteWithoutASlide);
        Check.sentence("Promise 24", "NONE when it is not on it", PictureEdgesTest::pointsBesideIt);
    }

    private static void doneMoves(int kind, int property) {
        SlideStage s = Stages.withOneShape();
        s.shape(2, NONE);
        s.set(0, property, 40);
        move(s, 0, kind, WITH, 0, 0, 40);
        Check.due("beyond what may be told", 80, s.now(0, property));
        move(s, 0, kind, WITH, 0, 0, -7);
        Check.due("each of them", 73, s.now(0, property));
        move(s, 0, kind, CLICK, 0, 0, -40);
        Check.due("none to come", 73, s.now(0, property));
        s.click();
        Check.due("those of builds before, too", 33, s.now(0, property));
        move(s, 0, kind, WITH, 0, 0, 0);
        Check.due("by nothing", 33, s.now(0, property));
        Check.due("the other one stays", 0, s.now(0, 1 - property));
        Check.due("another shape stays", 0, s.now(1, property));
        SlideStage most = Stages.withOneShape();
        most.set(0, property, -40);
        for (int n = 0; n < 24; n++) {
            move(most, 0, kind, WITH, 0, 0, -40);
        }
        Check.due("24 of them", -1000, most.now(0, property));
    }

    private static void runningMoves(int kind, int property) {
        int[] amounts = {-40, -7, -1, 0, 1, 7, 40};
        int[] durations = {1, 3, 50};
        for (int amount : amounts) {
            for (int duration : durations) {
                SlideStage s = Stages.withOneShape();
                s.set(0, property, 5);
                move(s, 0, kind, WITH, 0, duration, amount);
                for (int passed = 0; passed <= duration + 1; passed++) {
                    int way = Math.abs(amount) * Math.min(passed, duration) / duration;
                    int due = amount < 0 ? 5 - way : 5 + way;
                    Check.due(amount + " in " + duration + " at " + passed, due, s.now(0, property));
                    s.tick(1);
                }
            }
        }
        SlideStage two = Stages.withOneShape();
        move(two, 0, kind, WITH, 0, 4, 3);
        move(two, 0, kind, WITH, 0, 4, 3);
        move(two, 0, kind, WITH, 0, 4, -3);
        two.tick(3);
        Check.due("each cut off by itself", 2, two.now(0, property));
    }

    private static void passed() {
        SlideStage s = Stages.withOneShape();
        move(s, 0, MOVE_X, CLICK, 5, 10, 20);
        s.tick(9);
        s.click();
        s.tick(5);
        Check.due("at its start", 0, s.now(0, X));
        s.tick(1);
        Check.due("one behind it", 2, s.now(0, X));
        s.tick(8);
        Check.due("one before its end", 18, s.now(0, X));
        s.tick(1);
        Check.due("at its end", 20, s.now(0, X));
    }

    private static void alphaAtFirst() {
        int[][] kinds = {
            {}, {ENTER}, {LEAVE}, {ENTER, LEAVE}, {LEAVE, ENTER}, {MOVE_X, ENTER}, {MOVE_Y, LEAVE},
            {MOVE_X, MOVE_Y}, {ENTER, ENTER}, {MOVE_X, MOVE_Y, ENTER, LEAVE}
        };
        boolean[] hidden = {false, true, false, true, false, true, false, false, true, true};
        for (int i = 0; i < kinds.length; i++) {
            SlideStage s = Stages.withOneShape();
            s.shape(2, NONE);
            s.set(0, ALPHA, 201);
            s.effect(1, kinds[i].length > 0 && kinds[i][0] == ENTER ? LEAVE : ENTER, CLICK, 0, 0);
            for (int kind : kinds[i]) {
                s.effect(0, kind, CLICK, 0, 1);
            }
            Check.due("case " + i, hidden[i] ? 0 : 201, s.now(0, ALPHA));
        }
    }

    private static void alphaEntered() {
        SlideStage s = Stages.withOneShape();
        s.set(0, ALPHA, 201);
        s.effect(0, ENTER, WITH, 1, 0);
        Check.due("to come", 0, s.now(0, ALPHA));
        s.tick(1);
        Check.due("entered", 201, s.now(0, ALPHA));
        s.effect(0, LEAVE, WITH, 0, 0);
        Check.due("left, by the later one", 0, s.now(0, ALPHA));
        s.effect(0, ENTER, WITH, 0, 0);
        Check.due("entered again, by the latest", 201, s.now(0, ALPHA));
        s.effect(0, LEAVE, CLICK, 0, 10);
        s.effect(0, ENTER, WITH, 5, 0);
        s.click();
        s.tick(4);
        Check.due("leaves", 201 - 80, s.now(0, ALPHA));
        s.tick(1);
        Check.due("an ENTER in turn behind a LEAVE that runs", 201, s.now(0, ALPHA));
        s.set(0, ALPHA, 7);
        Check.due("A as it is then", 7, s.now(0, ALPHA));
    }

    private static void alphaEntering() {
        int[] alphas = {0, 1, 101, 254, 255};
        int[] durations = {1, 3, 7, 50};
        for (int alpha : alphas) {
            for (int duration : durations) {
                SlideStage s = Stages.withOneShape();
                s.set(0, ALPHA, alpha);
                s.effect(0, ENTER, WITH, 2, duration);
                s.tick(1);
                Check.due("just before its start", 0, s.now(0, ALPHA));
                for (int passed = 0; passed <= duration; passed++) {
                    s.tick(1);
                    Check.due(alpha + " in " + duration + " at " + passed, alpha * passed / duration,
                            s.now(0, ALPHA));
                }
                s.tick(1);
                Check.due("behind its end", alpha, s.now(0, ALPHA));
            }
        }
    }

    private static void alphaLeft() {
        SlideStage s = Stages.withOneShape();
        s.set(0, ALPHA, 201);
        s.effect(0, LEAVE, WITH, 1, 0);
        Check.due("to come", 201, s.now(0, ALPHA));
        s.tick(1);
        Check.due("left", 0, s.now(0, ALPHA));
        s.effect(0, ENTER, WITH, 0, 10);
        Check.due("enters, by the later one", 20, s.now(0, ALPHA));
        s.effect(0, LEAVE, WITH, 0, 0);
        Check.due("a LEAVE in turn behind an ENTER that runs", 0, s.now(0, ALPHA));
        s.tick(9);
        Check.due("and behind one that is done", 0, s.now(0, ALPHA));
    }

    private static void alphaLeaving() {
        int[] alphas = {0, 1, 101, 254, 255};
        int[] durations = {1, 3, 7, 50};
        for (int alpha : alphas) {
            for (int duration : durations) {
                SlideStage s = Stages.withOneShape();
                s.set(0, ALPHA, alpha);
                s.effect(0, LEAVE, WITH, 2, duration);
                s.tick(1);
                Check.due("just before its start", alpha, s.now(0, ALPHA));
                for (int passed = 0; passed <= duration; passed++) {
                    s.tick(1);
                    Check.due(alpha + " in " + duration + " at " + passed,
                            alpha - alpha * passed / duration, s.now(0, ALPHA));
                }
                s.tick(1);
                Check.due("behind its end", 0, s.now(0, ALPHA));
            }
        }
    }

    private static void resolvedOnThatSlide() {
        SlideStage s = Stages.withOneSlide();
        for (int page = 0; page < 3; page++) {
            s.shape(page, 2);
        }
        int[] values = {3, 4, 5, 6, 0x070809, 10, 2};
        for (int p = 0; p < 7; p++) {
            s.set(p % 3, p, values[p]);
        }
        for (int p = 0; p < 7; p++) {
            Check.due("without effects " + p, values[p], s.now(2, p));
        }
        move(s, 2, MOVE_X, WITH, 0, 0, 1);
        move(s, 2, MOVE_Y, WITH, 0, 0, 1);
        s.effect(2, LEAVE, WITH, 0, 0);
        int[] due = {4, 5, 5, 6, 0x070809, 0, 2};
        for (int p = 0; p < 7; p++) {
            Check.due("with effects " + p, due[p], s.now(2, p));
        }
    }

    private static void resolvedOnOtherPages() {
        SlideStage s = Stages.withSlides(2);
        for (int page = 0; page < 4; page++) {
            s.shape(page, 1);
            s.set(page, X, page + 1);
            s.set(page, ALPHA, page + 100);
        }
        for (int shape = 2; shape < 4; shape++) {
            move(s, shape, MOVE_X, WITH, 0, 0, 10);
            move(s, shape, MOVE_Y, WITH, 0, 0, 10);
            s.effect(shape, LEAVE, WITH, 0, 0);
        }
        for (int at = 0; at < 2; at++) {
            s.jump(at);
            for (int shape = 0; shape < 4; shape++) {
                boolean shown = shape == 2 + at;
                Check.due("X", shape + 1 + (shown ? 10 : 0), s.now(shape, X));
                Check.due("Y", shown ? 10 : 0, s.now(shape, Y));
                Check.due("ALPHA", shown ? 0 : shape + 100, s.now(shape, ALPHA));
            }
        }
    }

    private static void edgesOfThePicture() {
        SlideStage s = Stages.withOneShape();
        place(s, 0, -40, -40, 40, 40, 1);
        s.shape(2, NONE);
        place(s, 1, 0, 0, 40, 40, 2);
        int[][] corners = {{0, 0}, {23, 0}, {0, 15}, {23, 15}};
        for (int[] at : corners) {
            Check.due("a corner", 2, s.pixel(at[0], at[1]));
        }
        int[][] beside = {{-1, 0}, {24, 0}, {0, -1}, {0, 16}, {-1, 15}, {24, 15}, {23, -1}, {23, 16}};
        for (int[] at : beside) {
            Check.due("beside a corner", NONE, s.pixel(at[0], at[1]));
        }
        int points = 0;
        SlideStage along = Stages.withOneSlide();
        for (int x = -2; x < 30; x++) {
            points += along.pixel(x, 0) == NONE ? 0 : 1;
        }
        Check.due("points of a row", 24, points);
        points = 0;
        for (int y = -2; y < 30; y++) {
            points += along.pixel(0, y) == NONE ? 0 : 1;
        }
        Check.due("points of a column", 16, points);
    }

    private static void whiteWhereNothingIs() {
        SlideStage s = Stages.withOneSlide();
        for (int x = 0; x < 24; x++) {
            for (int y = 0; y < 16; y++) {
                Check.due("an empty slide", WHITE, s.pixel(x, y));
            }
        }
        SlideStage none = Stages.withOneShape();
        none.set(0, ALPHA, 0);
        Check.due("a shape that lets all through", WHITE, none.pixel(0, 0));
        none.set(0, ALPHA, 255);
        none.set(0, WIDTH, 0);
        Check.due("no WIDTH", WHITE, none.pixel(0, 0));
        none.set(0, WIDTH, 1);
        none.set(0, HEIGHT, 0);
        Check.due("no HEIGHT", WHITE, none.pixel(0, 0));
        none.set(0, HEIGHT, 1);
        Check.due("one point", 0x808080, none.pixel(0, 0));
        Check.due("and no other", WHITE, none.pixel(1, 0));
    }

    private static void pagesOfThePicture() {
        SlideStage s = Stages.withSlides(2);
        s.page(0, NONE);
        s.page(1, 4);
        s.page(1, 0);
        // A point for each page: free shapes at 0 .. 6, shapes with a slot at 10 .. 16.
        for (int page = 0; page < 7; page++) {
            place(s, s.shape(page, NONE), page, 0, 1, 1, page + 1);
            place(s, s.shape(page, 0), 10 + page, 0, 1, 1, page + 1);
        }
        for (int at = 0; at < 2; at++) {
            s.jump(at);
            for (int page = 0; page < 7; page++) {
                boolean under = page == 0 || page == 1;
                boolean slide = page == 2 + at;
                Check.due("free on " + page, under || slide ? page + 1 : WHITE, s.pixel(page, 0));
                Check.due("slot on " + page, slide ? page + 1 : WHITE, s.pixel(10 + page, 0));
            }
        }
        SlideStage over = Stages.withOneSlide();
        place(over, over.shape(2, NONE), 0, 0, 1, 1, 3);
        place(over, over.shape(1, NONE), 0, 0, 1, 2, 2);
        place(over, over.shape(0, NONE), 0, 0, 1, 3, 1);
        place(over, over.shape(0, 1), 0, 0, 1, 4, 9);
        place(over, over.shape(1, 1), 0, 0, 1, 4, 9);
        int[] due = {3, 2, 1, WHITE};
        for (int y = 0; y < due.length; y++) {
            Check.due("what is on top at " + y, due[y], over.pixel(0, y));
        }
        over.set(over.shape(2, 0), COLOR, 7);
        Check.due("a slot of the slide over all", 7, over.pixel(0, 0));
    }

    private static void orderOnAPage() {
        for (int page = 0; page < 3; page++) {
            SlideStage s = Stages.withOneSlide();
            int[] slots = page == 2 ? new int[] {7, NONE, 0, 3} : new int[] {NONE, NONE, NONE, NONE};
            for (int n = 0; n < 4; n++) {
                place(s, s.shape(page, slots[n]), n, 0, 8, 1, n + 1);
            }
            for (int n = 0; n < 4; n++) {
                Check.due("page " + page + " at " + n, n + 1, s.pixel(n, 0));
            }
            Check.due("the last one is on top", 4, s.pixel(7, 0));
        }
    }

    private static void pointsOfAShape() {
        int[][] boxes = {
            {0, 0, 1, 1}, {23, 15, 1, 1}, {5, 3, 2, 6}, {-2, -3, 4, 5}, {20, 12, 40, 40}, {-39, 0, 40, 16},
            {-40, 0, 40, 16}, {0, -40, 24, 40}, {24, 0, 40, 16}, {0, 16, 24, 40}, {40, 40, 40, 40}
        };
        for (int[] box : boxes) {
            SlideStage s = Stages.withOneShape();
            place(s, 0, box[0], box[1], box[2], box[3], 0);
            int right = box[0] + box[2] - 1;
            int low = box[1] + box[3] - 1;
            int[] columns = {box[0] - 1, box[0], right, right + 1, 0, 12, 23};
            int[] rows = {box[1] - 1, box[1], low, low + 1, 0, 8, 15};
            for (int x : columns) {
                for (int y : rows) {
                    boolean on = x >= 0 && x < 24 && y >= 0 && y < 16;
                    boolean covered = x >= box[0] && x <= right && y >= box[1] && y <= low;
                    Check.due("at " + x + ", " + y, !on ? NONE : covered ? 0 : WHITE, s.pixel(x, y));
                }
            }
        }
        SlideStage s = Stages.withOneShape();
        place(s, 0, 40, 40, 2, 2, 0);
        move(s, 0, MOVE_X, WITH, 0, 0, -18);
        move(s, 0, MOVE_Y, WITH, 0, 0, -25);
        Check.due("moved to its place now", 0, s.pixel(22, 15));
        Check.due("and no farther", WHITE, s.pixel(21, 15));
        Check.due("nor higher", WHITE, s.pixel(22, 14));
        move(s, 0, MOVE_X, WITH, 0, 0, 2);
        Check.due("and away", WHITE, s.pixel(23, 15));
    }

    private static void partsMixed() {
        int[] values = {0, 1, 127, 128, 254, 255};
        int[] alphas = {0, 1, 2, 127, 128, 253, 254, 255};
        for (int over : values) {
            for (int under : values) {
                SlideStage s = Stages.withOneShape();
                s.shape(2, NONE);
                s.set(0, COLOR, under << 16 | over << 8 | 100);
                s.set(1, COLOR, over << 16 | under << 8 | 200);
                for (int alpha : alphas) {
                    s.set(1, ALPHA, alpha);
                    int red = mixed(over, under, alpha);
                    int green = mixed(under, over, alpha);
                    int blue = mixed(200, 100, alpha);
                    Check.due(over + " over " + under + " by " + alpha, red << 16 | green << 8 | blue,
                            s.pixel(0, 0));
                }
            }
        }
        SlideStage faint = Stages.withOneShape();
        faint.set(0, ALPHA, 1);
        faint.set(0, COLOR, 0x7F8000);
        Check.due("127 and 128 parts of 255 are cut off otherwise", 0xFEFFFE, faint.pixel(0, 0));
        SlideStage thrice = Stages.withOneShape();
        thrice.shape(2, NONE);
        thrice.shape(2, NONE);
        for (int n = 0; n < 3; n++) {
            thrice.set(n, COLOR, 0);
            thrice.set(n, ALPHA, 51);
        }
        // 255 goes to 204, to 163 (163.2) and to 130 (130.4).
        Check.due("each over what there is", 130 * 0x010101, thrice.pixel(0, 0));
    }

    private static int mixed(int over, int under, int alpha) {
        return (over * alpha + under * (255 - alpha) + 127) / 255;
    }

    private static void partsOfAColor() {
        int[] colors = {0, 1, 0xFF, 0x100, 0xFF00, 0x10000, 0xFF0000, 0xFFFFFF, 0x123456};
        SlideStage s = Stages.withOneShape();
        for (int color : colors) {
            s.set(0, COLOR, color);
            Check.due("as it is", color, s.pixel(0, 0));
        }
        s.set(0, ALPHA, 51);
        int[] faint = {0xFF0000, 0x00FF00, 0x0000FF};
        int[] due = {0xFFCCCC, 0xCCFFCC, 0xCCCCFF};
        for (int i = 0; i < faint.length; i++) {
            s.set(0, COLOR, faint[i]);
            Check.due("a fifth over white", due[i], s.pixel(0, 0));
        }
    }

    private static void nowOfEach() {
        SlideStage s = new SlideStage();
        s.page(0, NONE);
        s.shape(0, NONE);
        int[] theme = {0, 0, 8, 4, 0x808080, 255, 4};
        for (int p = 0; p < 7; p++) {
            Check.due("without a slide " + p, theme[p], s.now(0, p));
        }
        s.page(1, 0);
        s.page(2, 1);
        s.shape(2, NONE);
        for (int p = 0; p < 7; p++) {
            Check.due("on a slide " + p, theme[p], s.now(1, p));
        }
        s.theme(X, 7);
        Check.due("as the theme is then", 7, s.now(1, X));
        move(s, 1, MOVE_X, WITH, 0, 0, 3);
        Check.due("and moved", 10, s.now(1, X));
    }

    private static void nowOfNoShape() {
        SlideStage none = Stages.withOneSlide();
        for (int shape : Check.beyond(0, -1)) {
            Check.out("now(" + shape + ", 0) without shapes", () -> none.now(shape, 0));
        }
        SlideStage s = Stages.withOneShape();
        for (int shape : Check.beyond(0, 0)) {
            Check.out("now(" + shape + ", 0)", () -> s.now(shape, 0));
        }
    }

    private static void nowWithout() {
        SlideStage s = Stages.withSlides(2);
        s.shape(2, NONE);
        s.shape(3, NONE);
        for (int property : Check.beyond(0, 6)) {
            Check.argument("on the slide", () -> s.now(0, property));
            Check.argument("on another slide", () -> s.now(1, property));
        }
    }

    private static void whiteWithoutASlide() {
        SlideStage s = new SlideStage();
        expectCornersWhite(s);
        s.page(0, NONE);
        place(s, s.shape(0, NONE), 0, 0, 40, 40, 1);
        expectCornersWhite(s);
        s.page(1, 0);
        place(s, s.shape(1, NONE), 0, 0, 40, 40, 2);
        expectCornersWhite(s);
        s.page(2, 1);
        Check.due("with a slide", 2, s.pixel(0, 0));
    }

    private static void expectCornersWhite(SlideStage s) {
        Check.due("first corner", WHITE, s.pixel(0, 0));
        Check.due("second corner", WHITE, s.pixel(23, 0));
        Check.due("third corner", WHITE, s.pixel(0, 15));
        Check.due("last corner", WHITE, s.pixel(23, 15));
    }

    private static void pointsBesideIt() {
        SlideStage none = new SlideStage();
        SlideStage s = Stages.withOneShape();
        place(s, 0, -20, -20, 40, 40, 1);
        for (int x : Check.beyond(0, 23)) {
            Check.due("pixel(" + x + ", 0) without a slide", NONE, none.pixel(x, 0));
            Check.due("pixel(" + x + ", 0)", NONE, s.pixel(x, 0));
            Check.due("pixel(" + x + ", 15)", NONE, s.pixel(x, 15));
        }
        for (int y : Check.beyond(0, 15)) {
            Check.due("pixel(0, " + y + ") without a slide", NONE, none.pixel(0, y));
            Check.due("pixel(0, " + y + ")", NONE, s.pixel(0, y));
            Check.due("pixel(23, " + y + ")", NONE, s.pixel(23, y));
            Check.due("pixel(-1, " + y + ")", NONE, s.pixel(-1, y));
        }
    }

    private static void place(SlideStage s, int shape, int x, int y, int width, int height, int color) {
        int[] values = {x, y, width, height, color};
        for (int p = 0; p < values.length; p++) {
            s.set(shape, p, values[p]);
        }
    }

    private static void move(
            SlideStage s, int shape, int kind, int trigger, int delay, int duration, int amount) {
        s.amount(s.effect(shape, kind, trigger, delay, duration), amount);
    }
}
