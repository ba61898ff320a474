/** The sentences on the show that name a boundary case: a test for each. */
public final class ShowEdgesTest {
    private static final int NONE = SlideStage.NONE;
    private static final int X = 0;
    private static final int MOVE_X = 2;
    private static final int CLICK = 0;
    private static final int WITH = 1;

    public static void main(String[] args) {
        theShow();
        clicks();
        waysBack();
        jumpsAndTicks();
        states();
        Check.end();
    }

    private static void theShow() {
        Check.sentence("What it is", "An object is used for at most 512 calls after it has been made",
                ShowEdgesTest::all512Calls);
        Check.sentence("Terms", "THE SHOW has so many CLICKS and a TIME, both 0 at first",
                ShowEdgesTest::atFirst);
        Check.sentence("Terms", "and is at a slide: at the first one as soon as there is one",
                ShowEdgesTest::atTheFirstSlide);
        Check.sentence("Terms", "(clicks and time stay as they are then: what was ticked before it counts)",
                ShowEdgesTest::tickedBefore);
    }

    private static void clicks() {
        Check.sentence("Promise 18", "when the slide has a build of that number the clicks are one more,"
                + " and the time 0", ShowEdgesTest::clickToABuild);
        Check.sentence("Promise 18", "otherwise the show is at the next slide, clicks and time 0, if there"
                + " is one", ShowEdgesTest::clickToASlide);
        Check.sentence("Promise 18", "otherwise false, refused", ShowEdgesTest::clickRefused);
    }

    private static void waysBack() {
        Check.sentence("Promise 19", "When there were clicks, they are one less, and the time is the length"
                + " of that build", ShowEdgesTest::backToABuild);
        Check.sentence("Promise 19", "otherwise the show is at the slide before, clicks as many as its last"
                + " build's number, the time that one's length", ShowEdgesTest::backToASlide);
        Check.sentence("Promise 19", "if there is none, false, refused", ShowEdgesTest::backRefused);
    }

    private static void jumpsAndTicks() {
        Check.sentence("Promise 20", "The show is at slide k (from 0; perhaps where it is), clicks and"
                + " time 0.", ShowEdgesTest::jumpAnywhere);
        Check.sentence("Promise 20", "IndexOutOfBoundsException when there is no such slide",
                ShowEdgesTest::jumpToNoSlide);
        Check.sentence("Promise 21", "The time grows by n", ShowEdgesTest::tickByEach);
        Check.sentence("Promise 21", "to 1000000 at most", ShowEdgesTest::mostTime);
        Check.sentence("Promise 21", "(without a slide, too)", ShowEdgesTest::tickWithoutASlide);
        Check.sentence("Promise 21", "IllegalArgumentException when n is not 0 .. 1000",
                ShowEdgesTest::noSuchTick);
    }

    private static void states() {
        Check.sentence("Promise 22", "what = 0 which slide it is at (from 0; NONE when there is none)",
                ShowEdgesTest::stateOfTheSlide);
        Check.sentence("Promise 22", "1 the clicks, 2 the time", ShowEdgesTest::stateOfClicksAndTime);
        Check.sentence("Promise 22", "3 the number of the slide's last build (0 without a slide)",
                ShowEdgesTest::stateOfTheLastBuild);
        Check.sentence("Promise 22", "4 the length of the build of that many clicks as there were (0"
                + " without a slide)", ShowEdgesTest::stateOfTheLength);
        Check.sentence("Promise 22", "NONE for others", ShowEdgesTest::stateOfOthers);
    }

    private static void all512Calls() {
        SlideStage ticked = new SlideStage();
        for (int call = 0; call < 511; call++) {
            ticked.tick(1000);
        }
        Check.due("the 512th call", 511000, ticked.state(2));
        SlideStage full = Stages.withOneSlide();
        for (int n = 0; n < 24; n++) {
            full.shape(2, NONE);
        }
        for (int n = 0; n < 24; n++) {
            full.effect(n, 1, CLICK, 0, 50);
        }
        for (int call = 3 + 24 + 24; call < 510; call++) {
            Check.due("a point", 0x808080, full.pixel(call % 8, call % 4));
        }
        Check.due("the 511th call", true, full.click());
        Check.due("the 512th call", 0x808080, full.pixel(7, 3));
    }

    private static void atFirst() {
        SlideStage s = new SlideStage();
        Check.due("clicks", 0, s.state(1));
        Check.due("time", 0, s.state(2));
        expectState(Stages.withOneSlide(), 0, 0, 0, 0, 0);
        expectState(Stages.withSlides(10), 0, 0, 0, 0, 0);
    }

    private static void atTheFirstSlide() {
        SlideStage s = new SlideStage();
        Check.due("no page", NONE, s.state(0));
        s.page(0, NONE);
        Check.due("a master", NONE, s.state(0));
        s.page(1, 0);
        s.page(1, 0);
        Check.due("layouts", NONE, s.state(0));
        s.page(2, 2);
        Check.due("a slide", 0, s.state(0));
        s.page(2, 1);
        Check.due("another slide", 0, s.state(0));
        s.click();
        Check.due("the second slide", 1, s.state(0));
        s.page(2, 1);
        Check.due("a third slide", 1, s.state(0));
    }

    private static void tickedBefore() {
        SlideStage s = new SlideStage();
        s.tick(3);
        s.page(0, NONE);
        s.page(1, 0);
        s.tick(4);
        s.page(2, 1);
        expectState(s, 0, 0, 7, 0, 0);
        s.shape(2, NONE);
        s.amount(s.effect(0, MOVE_X, WITH, 2, 10), 20);
        Check.due("5 of 10 have passed", 10, s.now(0, X));
        Check.due("it runs", 1, s.timing(0, 3));
        s.page(2, 1);
        expectState(s, 0, 0, 7, 0, 12);
    }

    /** Slide 0 has builds 0, 1 and 2 of the lengths 4, 7 and 0, slide 1 none, slide 2 build 1 of 9. */
    private static SlideStage threeSlides() {
        SlideStage s = Stages.withSlides(3);
        s.shape(2, NONE);
        s.shape(4, NONE);
        s.effect(0, MOVE_X, WITH, 1, 3);
        s.effect(0, MOVE_X, CLICK, 2, 5);
        s.effect(0, MOVE_X, WITH, 0, 1);
        s.effect(0, MOVE_X, CLICK, 0, 0);
        s.effect(1, MOVE_X, CLICK, 0, 9);
        return s;
    }

    private static void clickToABuild() {
        SlideStage s = threeSlides();
        s.tick(5);
        Check.due("build 1", true, s.click());
        expectState(s, 0, 1, 0, 2, 7);
        s.tick(5);
        Check.due("build 2, which is over at once", true, s.click());
        expectState(s, 0, 2, 0, 2, 0);
        SlideStage later = Stages.withOneShape();
        Check.due("no build yet", false, later.click());
        later.effect(0, MOVE_X, WITH, 0, 5);
        Check.due("build 0 is none to click for", false, later.click());
        later.effect(0, MOVE_X, CLICK, 0, 5);
        Check.due("then there is one", true, later.click());
        SlideStage most = Stages.withOneShape();
        for (int n = 0; n < 24; n++) {
            most.effect(0, MOVE_X, CLICK, 0, 0);
        }
        for (int n = 1; n <= 24; n++) {
            Check.due("click " + n, true, most.click());
            Check.due("clicks", n, most.state(1));
        }
        Check.due("no build 25", false, most.click());
    }

    private static void clickToASlide() {
        SlideStage s = threeSlides();
        s.click();
        s.click();
        s.tick(5);
        Check.due("slide 1", true, s.click());
        expectState(s, 1, 0, 0, 0, 0);
        s.tick(5);
        Check.due("slide 2", true, s.click());
        expectState(s, 2, 0, 0, 1, 0);
        SlideStage most = Stages.withSlides(10);
        for (int k = 1; k < 10; k++) {
            most.tick(k);
            Check.due("to slide " + k, true, most.click());
            expectState(most, k, 0, 0, 0, 0);
        }
    }

    private static void clickRefused() {
        SlideStage none = new SlideStage();
        none.tick(6);
        Check.due("no page", false, none.click());
        expectState(none, NONE, 0, 6, 0, 0);
        none.page(0, NONE);
        none.page(1, 0);
        Check.due("no slide", false, none.click());
        expectState(none, NONE, 0, 6, 0, 0);
        SlideStage s = threeSlides();
        s.jump(2);
        s.click();
        s.tick(20);
        for (int n = 0; n < 3; n++) {
            Check.due("the last build of the last slide", false, s.click());
            expectState(s, 2, 1, 20, 1, 9);
        }
        s.page(2, 1);
        Check.due("a slide behind it", true, s.click());
        expectState(s, 3, 0, 0, 0, 0);
        s.tick(8);
        Check.due("the last slide, without builds", false, s.click());
        expectState(s, 3, 0, 8, 0, 0);
    }

    private static void backToABuild() {
        SlideStage s = threeSlides();
        s.click();
        s.click();
        s.tick(5);
        Check.due("to build 1", true, s.back());
        expectState(s, 0, 1, 7, 2, 7);
        Check.due("to build 0", true, s.back());
        expectState(s, 0, 0, 4, 2, 4);
        s.jump(2);
        s.click();
        s.tick(5);
        Check.due("to build 0 without effects", true, s.back());
        expectState(s, 2, 0, 0, 1, 0);
    }

    private static void backToASlide() {
        SlideStage s = threeSlides();
        s.jump(2);
        s.tick(5);
        Check.due("to a slide without builds", true, s.back());
        expectState(s, 1, 0, 0, 0, 0);
        s.tick(5);
        Check.due("to a slide with two", true, s.back());
        expectState(s, 0, 2, 0, 2, 0);
        SlideStage one = Stages.withSlides(2);
        one.shape(2, NONE);
        one.effect(0, MOVE_X, WITH, 3, 8);
        one.jump(1);
        Check.due("to a slide with build 0 alone", true, one.back());
        expectState(one, 0, 0, 11, 0, 11);
        one.effect(0, MOVE_X, CLICK, 50, 50);
        one.effect(0, MOVE_X, WITH, 0, 1);
        one.jump(1);
        Check.due("to the end of build 1", true, one.back());
        expectState(one, 0, 1, 100, 1, 100);
    }

    private static void backRefused() {
        SlideStage none = new SlideStage();
        none.tick(6);
        Check.due("no page", false, none.back());
        expectState(none, NONE, 0, 6, 0, 0);
        none.page(0, NONE);
        none.page(1, 0);
        Check.due("no slide", false, none.back());
        expectState(none, NONE, 0, 6, 0, 0);
        SlideStage s = threeSlides();
        s.tick(6);
        for (int n = 0; n < 3; n++) {
            Check.due("the first slide without clicks", false, s.back());
            expectState(s, 0, 0, 6, 2, 4);
        }
        s.click();
        Check.due("with a click", true, s.back());
        Check.due("and again without", false, s.back());
        expectState(s, 0, 0, 4, 2, 4);
    }

    private static void jumpAnywhere() {
        SlideStage s = threeSlides();
        for (int from = 0; from < 3; from++) {
            for (int k = 0; k < 3; k++) {
                s.jump(from);
                s.click();
                s.tick(5);
                s.jump(k);
                Check.due("the slide", k, s.state(0));
                Check.due("clicks", 0, s.state(1));
                Check.due("time", 0, s.state(2));
            }
        }
        SlideStage most = Stages.withSlides(10);
        most.jump(9);
        Check.due("the last of ten", 9, most.state(0));
        most.jump(9);
        Check.due("where it is", 9, most.state(0));
    }

    private static void jumpToNoSlide() {
        SlideStage none = new SlideStage();
        none.page(0, NONE);
        none.page(1, 0);
        for (int k : Check.beyond(0, -1)) {
            Check.out("jump(" + k + ") without a slide", () -> none.jump(k));
        }
        SlideStage s = threeSlides();
        s.click();
        s.tick(5);
        for (int k : Check.beyond(0, 2)) {
            Check.out("jump(" + k + ")", () -> s.jump(k));
        }
        expectState(s, 0, 1, 5, 2, 7);
    }

    private static void tickByEach() {
        SlideStage s = Stages.withOneSlide();
        int[] ticks = {0, 1, 0, 999, 1000, 500};
        int due = 0;
        for (int n : ticks) {
            s.tick(n);
            due += n;
            Check.due("behind tick(" + n + ")", due, s.state(2));
        }
    }

    /** An object would need 1000 calls to come there, more than it is promised for. */
    private static void mostTime() {
        SlideStage s = Stages.withOneSlide();
        for (int n = 0; n < 999; n++) {
            s.tick(1000);
        }
        s.tick(999);
        Check.due("one less", 999999, s.state(2));
        s.tick(1);
        Check.due("just so many", 1000000, s.state(2));
        s.tick(0);
        Check.due("none more", 1000000, s.state(2));
        s.tick(1);
        Check.due("one more", 1000000, s.state(2));
        s.jump(0);
        Check.due("it ends with the slide", 0, s.state(2));
        for (int n = 0; n < 999; n++) {
            s.tick(1000);
        }
        s.tick(1);
        s.tick(1000);
        Check.due("past it in one step", 1000000, s.state(2));
    }

    private static void tickWithoutASlide() {
        SlideStage s = new SlideStage();
        s.tick(1000);
        Check.due("no page", 1000, s.state(2));
        s.page(0, NONE);
        s.tick(0);
        s.tick(1);
        Check.due("no slide", 1001, s.state(2));
        for (int n : Check.beyond(0, 1000)) {
            Check.argument("tick(" + n + ")", () -> s.tick(n));
        }
        Check.due("it stays", 1001, s.state(2));
    }

    private static void noSuchTick() {
        SlideStage s = Stages.withOneSlide();
        s.tick(1000);
        for (int n : Check.beyond(0, 1000)) {
            Check.argument("tick(" + n + ")", () -> s.tick(n));
        }
        Check.due("it stays", 1000, s.state(2));
    }

    private static void stateOfTheSlide() {
        SlideStage s = new SlideStage();
        Check.due("no page", NONE, s.state(0));
        s.page(0, NONE);
        s.page(1, 0);
        Check.due("no slide", NONE, s.state(0));
        for (int k = 0; k < 10; k++) {
            s.page(2, 1);
            s.jump(k);
            Check.due("slide " + k, k, s.state(0));
        }
    }

    private static void stateOfClicksAndTime() {
        SlideStage s = threeSlides();
        s.tick(2);
        Check.due("no clicks", 0, s.state(1));
        Check.due("time", 2, s.state(2));
        s.click();
        s.click();
        s.tick(3);
        Check.due("two clicks", 2, s.state(1));
        Check.due("time of its own", 3, s.state(2));
    }

    private static void stateOfTheLastBuild() {
        SlideStage none = new SlideStage();
        Check.due("no page", 0, none.state(3));
        none.page(0, NONE);
        none.page(1, 0);
        none.tick(9);
        Check.due("no slide", 0, none.state(3));
        none.page(2, 1);
        Check.due("no effect", 0, none.state(3));
        SlideStage s = threeSlides();
        int[] due = {2, 0, 1};
        for (int k = 0; k < 3; k++) {
            s.jump(k);
            Check.due("of slide " + k, due[k], s.state(3));
            s.click();
            s.jump(k);
            Check.due("whatever the clicks", due[k], s.state(3));
        }
        s.effect(1, MOVE_X, WITH, 0, 0);
        Check.due("no build more", 1, s.state(3));
        s.effect(1, MOVE_X, CLICK, 0, 0);
        Check.due("a build more", 2, s.state(3));
    }

    private static void stateOfTheLength() {
        SlideStage none = new SlideStage();
        Check.due("no page", 0, none.state(4));
        none.page(0, NONE);
        none.page(1, 0);
        none.tick(9);
        Check.due("no slide", 0, none.state(4));
        SlideStage s = threeSlides();
        int[] due = {4, 7, 0};
        for (int clicks = 0; clicks < 3; clicks++) {
            Check.due("with " + clicks + " clicks", due[clicks], s.state(4));
            s.tick(1);
            Check.due("whatever the time", due[clicks], s.state(4));
            s.click();
        }
        Check.due("a slide without effects", 0, s.state(4));
        s.click();
        Check.due("a build without effects", 0, s.state(4));
        s.click();
        Check.due("the build behind it", 9, s.state(4));
    }

    private static void stateOfOthers() {
        SlideStage none = new SlideStage();
        SlideStage s = threeSlides();
        for (int what : Check.beyond(0, 4)) {
            Check.due("state(" + what + ") without a slide", NONE, none.state(what));
            Check.due("state(" + what + ")", NONE, s.state(what));
        }
    }

    private static void expectState(SlideStage s, int slide, int clicks, int time, int last, int length) {
        Check.due("slide", slide, s.state(0));
        Check.due("clicks", clicks, s.state(1));
        Check.due("time", time, s.state(2));
        Check.due("last build", last, s.state(3));
        Check.due("length", length, s.state(4));
    }
}
