/** Promises 18 to 22: clicks, the way back, jumps, time and the state of the show. */
public final class ShowTest {
    public static void main(String[] args) {
        withoutASlide();
        clicksThroughBuildsAndSlides();
        buildsMadeLater();
        backThroughBuildsAndSlides();
        backWithoutBuilds();
        jumps();
        ticks();
        states();
        Check.end();
    }

    private static void withoutASlide() {
        SlideStage s = new SlideStage();
        Check.due("18 refused", false, s.click());
        Check.due("19 refused", false, s.back());
        s.tick(30);
        Check.due("18 still refused", false, s.click());
        Check.due("19 still refused", false, s.back());
        expectState(s, -1, 0, 30, 0, 0);
        Check.out("20 slide 0", () -> s.jump(0));
        s.page(0, -1);
        s.page(1, 0);
        s.tick(5);
        expectState(s, -1, 0, 35, 0, 0);
        s.page(2, 1);
        expectState(s, 0, 0, 35, 0, 0);
        s.shape(2, -1);
        s.effect(0, 2, 1, 0, 50);
        s.amount(0, 20);
        Check.due("21 what was ticked before counts", 14, s.now(0, 0));
    }

    /** Slide 0 has builds 0, 1 and 2 of the lengths 4, 7 and 0, slide 1 none, slide 2 build 1. */
    private static SlideStage threeSlides() {
        SlideStage s = Stages.withSlides(3);
        s.shape(2, -1);
        s.shape(4, -1);
        s.effect(0, 2, 1, 1, 3);
        s.effect(0, 2, 0, 2, 5);
        s.effect(0, 2, 1, 0, 1);
        s.effect(0, 2, 0, 0, 0);
        s.effect(1, 2, 0, 0, 9);
        return s;
    }

    private static void clicksThroughBuildsAndSlides() {
        SlideStage s = threeSlides();
        expectState(s, 0, 0, 0, 2, 4);
        s.tick(3);
        Check.due("18 build 1", true, s.click());
        expectState(s, 0, 1, 0, 2, 7);
        s.tick(3);
        Check.due("18 build 2", true, s.click());
        expectState(s, 0, 2, 0, 2, 0);
        s.tick(3);
        Check.due("18 slide 1", true, s.click());
        expectState(s, 1, 0, 0, 0, 0);
        s.tick(3);
        Check.due("18 slide 2", true, s.click());
        expectState(s, 2, 0, 0, 1, 0);
        s.tick(3);
        Check.due("18 its build 1", true, s.click());
        expectState(s, 2, 1, 0, 1, 9);
        s.tick(3);
        Check.due("18 the end", false, s.click());
        expectState(s, 2, 1, 3, 1, 9);
    }

    private static void buildsMadeLater() {
        SlideStage s = Stages.withOneShape();
        Check.due("18 no build", false, s.click());
        s.effect(0, 2, 0, 0, 5);
        Check.due("18 a build then", true, s.click());
        Check.due("18 no other", false, s.click());
        s.tick(2);
        s.effect(0, 2, 2, 0, 6);
        expectState(s, 0, 1, 2, 1, 11);
        s.page(2, 1);
        expectState(s, 0, 1, 2, 1, 11);
        Check.due("18 a slide then", true, s.click());
        expectState(s, 1, 0, 0, 0, 0);
    }

    private static void backThroughBuildsAndSlides() {
        SlideStage s = threeSlides();
        s.jump(2);
        s.click();
        s.tick(2);
        Check.due("19 build 0 of slide 2", true, s.back());
        expectState(s, 2, 0, 0, 1, 0);
        s.tick(2);
        Check.due("19 slide 1", true, s.back());
        expectState(s, 1, 0, 0, 0, 0);
        s.tick(2);
        Check.due("19 slide 0 at its end", true, s.back());
        expectState(s, 0, 2, 0, 2, 0);
        s.tick(2);
        Check.due("19 build 1", true, s.back());
        expectState(s, 0, 1, 7, 2, 7);
        Check.due("19 build 0", true, s.back());
        expectState(s, 0, 0, 4, 2, 4);
        s.tick(2);
        Check.due("19 the beginning", false, s.back());
        expectState(s, 0, 0, 6, 2, 4);
    }

    private static void backWithoutBuilds() {
        SlideStage s = Stages.withSlides(2);
        s.shape(2, -1);
        s.effect(0, 2, 1, 3, 8);
        s.jump(1);
        Check.due("19 to build 0", true, s.back());
        expectState(s, 0, 0, 11, 0, 11);
    }

    private static void jumps() {
        SlideStage s = threeSlides();
        s.click();
        s.tick(4);
        s.jump(0);
        expectState(s, 0, 0, 0, 2, 4);
        s.tick(4);
        s.jump(2);
        expectState(s, 2, 0, 0, 1, 0);
        s.tick(4);
        Check.out("20 slide 3", () -> s.jump(3));
        Check.out("20 slide -1", () -> s.jump(-1));
        Check.out("20 slide far beyond", () -> s.jump(Integer.MAX_VALUE));
        expectState(s, 2, 0, 4, 1, 0);
        s.page(0, -1);
        s.page(2, 1);
        s.jump(3);
        expectState(s, 3, 0, 0, 0, 0);
        Check.out("20 slides, not pages", () -> s.jump(4));
    }

    private static void ticks() {
        SlideStage s = Stages.withOneSlide();
        s.tick(0);
        Check.due("21 0", 0, s.state(2));
        s.tick(7);
        s.tick(9);
        Check.due("21 16", 16, s.state(2));
        Check.argument("21 -1", () -> s.tick(-1));
        Check.argument("21 1001", () -> s.tick(1001));
        Check.argument("21 far", () -> s.tick(Integer.MAX_VALUE));
        Check.due("21 stays", 16, s.state(2));
        s.tick(1000);
        Check.due("21 1016", 1016, s.state(2));
        // More calls than an object is promised for: the bound of the time cannot be met with fewer.
        for (int k = 0; k < 998; k++) {
            s.tick(1000);
        }
        Check.due("21 before the last", 999016, s.state(2));
        s.tick(1000);
        Check.due("21 at most", 1000000, s.state(2));
        s.tick(1);
        Check.due("21 no more", 1000000, s.state(2));
    }

    private static void states() {
        SlideStage s = threeSlides();
        Check.due("22 what 5", -1, s.state(5));
        Check.due("22 what -1", -1, s.state(-1));
        Check.due("22 far", -1, s.state(Integer.MIN_VALUE));
        s.effect(0, 0, 1, 50, 50);
        expectState(s, 0, 0, 0, 2, 4);
        s.click();
        s.click();
        expectState(s, 0, 2, 0, 2, 100);
    }

    private static void expectState(SlideStage s, int slide, int clicks, int time, int last, int length) {
        Check.due("22 slide", slide, s.state(0));
        Check.due("22 clicks", clicks, s.state(1));
        Check.due("22 time", time, s.state(2));
        Check.due("22 last build", last, s.state(3));
        Check.due("22 length", length, s.state(4));
    }
}
