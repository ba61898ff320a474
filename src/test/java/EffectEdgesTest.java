/** The sentences on effects and their timing that name a boundary case: a test for each. */
public final class EffectEdgesTest {
    private static final int NONE = SlideStage.NONE;
    private static final int X = 0;
    private static final int Y = 1;
    private static final int ALPHA = 5;
    private static final int ENTER = 0;
    private static final int LEAVE = 1;
    private static final int MOVE_X = 2;
    private static final int MOVE_Y = 3;
    private static final int CLICK = 0;
    private static final int WITH = 1;
    private static final int AFTER = 2;
    private static final int TO_COME = 0;
    private static final int RUNS = 1;
    private static final int DONE = 2;
    private static final String NO_EFFECT = "IndexOutOfBoundsException when there is no such effect";

    public static void main(String[] args) {
        whatTheyAre();
        buildsAndBases();
        progress();
        making();
        amounts();
        timing();
        Check.end();
    }

    private static void whatTheyAre() {
        Check.sentence("Terms", "EFFECTS 0, 1, .. (at most 24) are on shapes of slides",
                EffectEdgesTest::twentyFourEffects);
        Check.sentence("Terms", "those of a slide stand in the order in which they were made",
                EffectEdgesTest::orderOfASlide);
        Check.sentence("Terms", "KINDS: 0 ENTER, 1 LEAVE, 2 MOVE X, 3 MOVE Y",
                EffectEdgesTest::fourKinds);
        Check.sentence("Terms", "these two by an AMOUNT (-40 .. 40, at first 0)",
                EffectEdgesTest::amountsOfMoves);
        Check.sentence("Terms", "TRIGGERS: 0 CLICK, 1 WITH, 2 AFTER.", EffectEdgesTest::threeTriggers);
    }

    private static void buildsAndBases() {
        Check.sentence("Terms", "An effect with CLICK begins a BUILD of its slide: these are counted from 1",
                EffectEdgesTest::buildsFromOne);
        Check.sentence("Terms", "those before the first one are build 0", EffectEdgesTest::buildZero);
        Check.sentence("Terms", "BASE is 0 for the first effect of a build",
                EffectEdgesTest::firstOfABuild);
        Check.sentence("Terms", "otherwise for WITH the base, for AFTER the END, of the effect before it",
                EffectEdgesTest::baseOfTheOneBefore);
        Check.sentence("Terms", "It STARTS at its base and its DELAY, and ends then and its DURATION later"
                + " (both 0 .. 50).", EffectEdgesTest::delaysAndDurations);
        Check.sentence("Terms", "The LENGTH of a build is its greatest end", EffectEdgesTest::greatestEnd);
        Check.sentence("Terms", "0 without effects", EffectEdgesTest::lengthWithoutEffects);
    }

    private static void progress() {
        Check.sentence("Terms", "An effect of that slide is DONE when its build is less than the clicks",
                EffectEdgesTest::doneWithItsBuild);
        Check.sentence("Terms", "or as great and its end is not more than the time",
                EffectEdgesTest::doneAtItsEnd);
        Check.sentence("Terms", "otherwise it RUNS when its build is as great as the clicks and its start"
                + " is not more than the time", EffectEdgesTest::runsFromItsStart);
        Check.sentence("Terms", "otherwise it is to come", EffectEdgesTest::toCome);
    }

    private static void making() {
        Check.sentence("Promise 15", "A new effect on a shape; answers its number.",
                EffectEdgesTest::numbersOfEffects);
        Check.sentence("Promise 15", "IndexOutOfBoundsException when there is no such shape",
                EffectEdgesTest::effectOfNoShape);
        Check.sentence("Promise 15", "IllegalArgumentException when kind, trigger, delay or duration is none",
                EffectEdgesTest::noSuchEffect);
        Check.sentence("Promise 15", "IllegalStateException when the shape is on no slide",
                EffectEdgesTest::onNoSlide);
        Check.sentence("Promise 15", "UnsupportedOperationException when there are 24",
                EffectEdgesTest::noTwentyFifthEffect);
    }

    private static void amounts() {
        Check.sentence("Promise 16", "(of any kind; it matters for MOVE alone)",
                EffectEdgesTest::amountsOfAnyKind);
        Check.sentence("Promise 16", NO_EFFECT, EffectEdgesTest::amountOfNoEffect);
        Check.sentence("Promise 16", "IllegalArgumentException when it is not -40 .. 40",
                EffectEdgesTest::noSuchAmount);
    }

    private static void timing() {
        Check.sentence("Promise 17", "what = 0 its start, 1 its end, 2 its build, 3 whether now it is to"
                + " come (0), runs (1) or is done (2)", EffectEdgesTest::timingOfEach);
        Check.sentence("Promise 17", "NONE for that when the show is not at its slide",
                EffectEdgesTest::timingOfOtherSlides);
        Check.sentence("Promise 17", "and for others", EffectEdgesTest::timingOfOthers);
        Check.sentence("Promise 17", NO_EFFECT, EffectEdgesTest::timingOfNoEffect);
    }

    private static void twentyFourEffects() {
        SlideStage one = Stages.withOneShape();
        SlideStage each = Stages.withSlides(10);
        for (int k = 0; k < 10; k++) {
            each.shape(2 + k, NONE);
        }
        for (int n = 0; n < 24; n++) {
            Check.due("all on one shape", n, one.effect(0, n % 4, n % 3, 0, 0));
            Check.due("on ten slides", n, each.effect(n % 10, n % 4, n % 3, 50, 50));
        }
        Check.unsupported("a 25th on one shape", () -> one.effect(0, ENTER, WITH, 0, 0));
        Check.unsupported("a 25th on ten slides", () -> each.effect(9, ENTER, WITH, 0, 0));
        Check.due("the last one", NONE, one.timing(23, 4));
        Check.due("the last one", NONE, each.timing(23, 4));
        Check.out("none behind it", () -> one.timing(24, 0));
        Check.out("none behind it", () -> each.timing(24, 0));
    }

    private static void orderOfASlide() {
        SlideStage s = Stages.withSlides(2);
        s.shape(2, NONE);
        s.shape(2, NONE);
        s.shape(3, NONE);
        s.effect(1, MOVE_X, WITH, 0, 7);
        s.effect(2, MOVE_X, AFTER, 0, 50);
        s.effect(0, MOVE_X, AFTER, 0, 5);
        expectTiming(s, 2, 7, 12, 0);
        s.effect(2, MOVE_X, AFTER, 0, 1);
        expectTiming(s, 3, 50, 51, 0);
        s.effect(2, MOVE_X, CLICK, 0, 3);
        expectTiming(s, 4, 0, 3, 1);
        s.effect(1, MOVE_X, AFTER, 0, 0);
        expectTiming(s, 5, 12, 12, 0);
        s.effect(0, MOVE_X, CLICK, 0, 4);
        expectTiming(s, 6, 0, 4, 1);
        s.effect(2, MOVE_X, AFTER, 0, 1);
        expectTiming(s, 7, 3, 4, 1);
    }

    private static void fourKinds() {
        int[][] behind = {{1, 2, 255}, {1, 2, 0}, {10, 2, 255}, {1, 11, 255}};
        for (int kind = ENTER; kind <= MOVE_Y; kind++) {
            SlideStage s = Stages.withOneShape();
            s.set(0, X, 1);
            s.set(0, Y, 2);
            s.effect(0, kind, CLICK, 0, 0);
            s.amount(0, 9);
            Check.due("X before " + kind, 1, s.now(0, X));
            Check.due("Y before " + kind, 2, s.now(0, Y));
            Check.due("ALPHA before " + kind, kind == ENTER ? 0 : 255, s.now(0, ALPHA));
            s.click();
            Check.due("X behind " + kind, behind[kind][0], s.now(0, X));
            Check.due("Y behind " + kind, behind[kind][1], s.now(0, Y));
            Check.due("ALPHA behind " + kind, behind[kind][2], s.now(0, ALPHA));
        }
    }

    private static void amountsOfMoves() {
        SlideStage s = Stages.withOneShape();
        s.effect(0, MOVE_X, WITH, 0, 0);
        s.effect(0, MOVE_Y, WITH, 0, 0);
        Check.due("X at first", 0, s.now(0, X));
        Check.due("Y at first", 0, s.now(0, Y));
        int[] amounts = {-40, -39, -1, 0, 1, 39, 40};
        for (int amount : amounts) {
            s.amount(0, amount);
            s.amount(1, -amount);
            Check.due("X by " + amount, amount, s.now(0, X));
            Check.due("Y by " + -amount, -amount, s.now(0, Y));
        }
        Check.argument("-41", () -> s.amount(0, -41));
        Check.argument("41", () -> s.amount(1, 41));
    }

    private static void threeTriggers() {
        SlideStage s = Stages.withOneShape();
        s.effect(0, MOVE_X, WITH, 2, 3);
        s.effect(0, MOVE_X, WITH, 0, 1);
        expectTiming(s, 1, 0, 1, 0);
        s.effect(0, MOVE_X, AFTER, 0, 1);
        expectTiming(s, 2, 1, 2, 0);
        s.effect(0, MOVE_X, CLICK, 0, 1);
        expectTiming(s, 3, 0, 1, 1);
    }

    private static void buildsFromOne() {
        SlideStage s = Stages.withSlides(2);
        s.shape(2, NONE);
        s.shape(3, NONE);
        for (int n = 0; n < 12; n++) {
            s.effect(0, n % 4, CLICK, 0, 0);
            s.effect(1, n % 4, n % 2 == 0 ? CLICK : AFTER, 0, 0);
            Check.due("build of a slide", n + 1, s.timing(2 * n, 2));
            Check.due("build of another slide", n / 2 + 1, s.timing(2 * n + 1, 2));
        }
        Check.due("the last build", 12, s.state(3));
        s.jump(1);
        Check.due("the last build there", 6, s.state(3));
    }

    private static void buildZero() {
        SlideStage s = Stages.withSlides(2);
        s.shape(2, NONE);
        s.shape(3, NONE);
        s.effect(1, MOVE_X, CLICK, 0, 0);
        s.effect(0, MOVE_X, WITH, 0, 5);
        s.effect(0, MOVE_X, AFTER, 0, 5);
        s.effect(0, MOVE_X, WITH, 0, 5);
        for (int e = 1; e < 4; e++) {
            Check.due("build of " + e, 0, s.timing(e, 2));
        }
        Check.due("no other", 0, s.state(3));
        Check.due("it needs no click", RUNS, s.timing(1, 3));
        s.effect(0, MOVE_X, CLICK, 0, 5);
        Check.due("the first one", 1, s.timing(4, 2));
        Check.due("those before it stay", 0, s.timing(3, 2));
    }

    private static void firstOfABuild() {
        for (int trigger = CLICK; trigger <= AFTER; trigger++) {
            SlideStage s = Stages.withSlides(2);
            s.shape(2, NONE);
            s.shape(3, NONE);
            int build = trigger == CLICK ? 1 : 0;
            s.effect(0, MOVE_X, trigger, 4, 5);
            expectTiming(s, 0, 4, 9, build);
            s.effect(1, MOVE_X, trigger, 2, 1);
            expectTiming(s, 1, 2, 3, build);
            s.effect(0, MOVE_X, AFTER, 50, 50);
            s.effect(0, MOVE_X, CLICK, 1, 2);
            expectTiming(s, 3, 1, 3, build + 1);
        }
    }

    private static void baseOfTheOneBefore() {
        SlideStage s = Stages.withOneShape();
        s.effect(0, MOVE_X, WITH, 3, 10);
        s.effect(0, MOVE_X, WITH, 0, 2);
        expectTiming(s, 1, 0, 2, 0);
        s.effect(0, MOVE_X, AFTER, 1, 1);
        // Behind effect 1, which ends at 2, not behind effect 0, which ends at 13.
        expectTiming(s, 2, 3, 4, 0);
        s.effect(0, MOVE_X, WITH, 0, 0);
        // With the base of effect 2, which is 2, not with its start.
        expectTiming(s, 3, 2, 2, 0);
        s.effect(0, MOVE_X, AFTER, 0, 6);
        expectTiming(s, 4, 2, 8, 0);
        s.effect(0, MOVE_X, AFTER, 0, 0);
        expectTiming(s, 5, 8, 8, 0);
        s.effect(0, MOVE_X, WITH, 5, 0);
        expectTiming(s, 6, 13, 13, 0);
        s.effect(0, MOVE_X, CLICK, 7, 1);
        s.effect(0, MOVE_X, WITH, 1, 1);
        expectTiming(s, 8, 1, 2, 1);
        s.effect(0, MOVE_X, AFTER, 0, 0);
        expectTiming(s, 9, 2, 2, 1);
    }

    private static void delaysAndDurations() {
        int[] times = {0, 1, 49, 50};
        for (int delay : times) {
            SlideStage s = Stages.withOneShape();
            for (int i = 0; i < times.length; i++) {
                s.effect(0, MOVE_X, WITH, delay, times[i]);
                expectTiming(s, i, delay, delay + times[i], 0);
            }
        }
        SlideStage s = Stages.withOneShape();
        for (int n = 0; n < 24; n++) {
            s.effect(0, MOVE_X, AFTER, 50, 50);
            expectTiming(s, n, 100 * n + 50, 100 * n + 100, 0);
        }
    }

    private static void greatestEnd() {
        SlideStage s = Stages.withSlides(2);
        s.shape(2, NONE);
        s.shape(3, NONE);
        s.effect(0, MOVE_X, WITH, 1, 2);
        Check.due("of one", 3, s.state(4));
        s.effect(0, MOVE_X, WITH, 5, 4);
        Check.due("of the last", 9, s.state(4));
        s.effect(0, MOVE_X, WITH, 0, 8);
        Check.due("not of the last", 9, s.state(4));
        s.effect(1, MOVE_X, WITH, 50, 50);
        Check.due("not of another slide", 9, s.state(4));
        s.effect(0, MOVE_X, CLICK, 20, 20);
        Check.due("not of another build", 9, s.state(4));
        s.effect(0, MOVE_X, CLICK, 1, 1);
        s.click();
        Check.due("of that build", 40, s.state(4));
        s.click();
        Check.due("of a shorter build behind it", 2, s.state(4));
    }

    private static void lengthWithoutEffects() {
        SlideStage s = Stages.withSlides(2);
        s.shape(2, NONE);
        Check.due("a slide without effects", 0, s.state(4));
        s.effect(0, MOVE_X, CLICK, 3, 4);
        Check.due("build 0 without effects", 0, s.state(4));
        s.click();
        s.tick(2);
        s.back();
        Check.due("back at it the time is 0", 0, s.state(2));
        s.jump(1);
        Check.due("another slide without effects", 0, s.state(4));
    }

    /** Builds 0 to 3 of one slide, each with an effect from 2 to 5. */
    private static SlideStage fourBuilds() {
        SlideStage s = Stages.withOneShape();
        for (int build = 0; build < 4; build++) {
            s.effect(0, MOVE_X, build == 0 ? WITH : CLICK, 2, 3);
        }
        return s;
    }

    private static void doneWithItsBuild() {
        SlideStage s = fourBuilds();
        for (int clicks = 1; clicks < 4; clicks++) {
            s.click();
            for (int build = 0; build < clicks; build++) {
                Check.due("build " + build + " with " + clicks + " clicks", DONE, s.timing(build, 3));
            }
            Check.due("the build itself", TO_COME, s.timing(clicks, 3));
        }
        s.back();
        Check.due("a build before, behind the way back", DONE, s.timing(1, 3));
    }

    private static void doneAtItsEnd() {
        SlideStage s = fourBuilds();
        for (int clicks = 0; clicks < 4; clicks++) {
            s.tick(4);
            Check.due("just before its end", RUNS, s.timing(clicks, 3));
            s.tick(1);
            Check.due("at its end", DONE, s.timing(clicks, 3));
            s.tick(1);
            Check.due("behind its end", DONE, s.timing(clicks, 3));
            s.tick(1000);
            Check.due("long behind its end", DONE, s.timing(clicks, 3));
            s.click();
        }
        SlideStage none = Stages.withOneShape();
        none.effect(0, MOVE_X, WITH, 0, 0);
        Check.due("from 0 to 0", DONE, none.timing(0, 3));
        none.effect(0, MOVE_X, WITH, 1, 0);
        Check.due("from 1 to 1", TO_COME, none.timing(1, 3));
        none.tick(1);
        Check.due("from 1 to 1, done at once", DONE, none.timing(1, 3));
    }

    private static void runsFromItsStart() {
        SlideStage s = fourBuilds();
        for (int clicks = 0; clicks < 4; clicks++) {
            s.tick(1);
            Check.due("just before its start", TO_COME, s.timing(clicks, 3));
            s.tick(1);
            Check.due("at its start", RUNS, s.timing(clicks, 3));
            s.tick(1);
            Check.due("behind its start", RUNS, s.timing(clicks, 3));
            for (int later = clicks + 1; later < 4; later++) {
                Check.due("a later build", TO_COME, s.timing(later, 3));
            }
            s.click();
        }
        SlideStage at = Stages.withOneShape();
        at.effect(0, MOVE_X, WITH, 0, 1);
        Check.due("from 0 on", RUNS, at.timing(0, 3));
    }

    private static void toCome() {
        SlideStage s = fourBuilds();
        for (int build = 0; build < 4; build++) {
            Check.due("build " + build + " at 0", TO_COME, s.timing(build, 3));
        }
        s.tick(1000);
        for (int build = 1; build < 4; build++) {
            Check.due("build " + build + " without its clicks", TO_COME, s.timing(build, 3));
        }
        s.jump(0);
        Check.due("again, behind a jump", TO_COME, s.timing(0, 3));
    }

    private static void numbersOfEffects() {
        SlideStage s = Stages.withSlides(2);
        s.shape(2, NONE);
        s.shape(3, 7);
        Check.due("the first", 0, s.effect(0, ENTER, CLICK, 0, 0));
        Check.due("on another slide", 1, s.effect(1, MOVE_Y, AFTER, 50, 50));
        Check.due("on the first again", 2, s.effect(0, LEAVE, WITH, 50, 0));
    }

    private static void effectOfNoShape() {
        SlideStage none = Stages.withOneSlide();
        for (int shape : Check.beyond(0, -1)) {
            Check.out("effect on " + shape + " without shapes", () -> none.effect(shape, 0, 0, 0, 0));
        }
        SlideStage s = Stages.withOneShape();
        for (int shape : Check.beyond(0, 0)) {
            Check.out("effect on " + shape, () -> s.effect(shape, 0, 0, 0, 0));
        }
        Check.due("none was made", 0, s.effect(0, 0, 0, 0, 0));
    }

    private static void noSuchEffect() {
        SlideStage s = Stages.withOneShape();
        for (int kind : Check.beyond(ENTER, MOVE_Y)) {
            Check.argument("kind " + kind, () -> s.effect(0, kind, 0, 0, 0));
        }
        for (int trigger : Check.beyond(CLICK, AFTER)) {
            Check.argument("trigger " + trigger, () -> s.effect(0, 0, trigger, 0, 0));
        }
        for (int time : Check.beyond(0, 50)) {
            Check.argument("delay " + time, () -> s.effect(0, 0, 0, time, 0));
            Check.argument("duration " + time, () -> s.effect(0, 0, 0, 0, time));
        }
        Check.argument("not both within 50 by their sum", () -> s.effect(0, 0, 0, -50, 100));
        Check.out("none was made", () -> s.timing(0, 0));
        Check.due("and no build", 0, s.state(3));
    }

    private static void onNoSlide() {
        SlideStage s = Stages.withOneSlide();
        s.shape(0, NONE);
        s.shape(0, 0);
        s.shape(1, NONE);
        s.shape(1, 0);
        s.shape(2, 0);
        for (int shape = 0; shape < 4; shape++) {
            int on = shape;
            Check.state("effect on " + shape, () -> s.effect(on, 0, 0, 0, 0));
        }
        Check.due("on the slide", 0, s.effect(4, 0, 0, 0, 0));
    }

    private static void noTwentyFifthEffect() {
        SlideStage s = Stages.withSlides(2);
        s.shape(2, NONE);
        s.shape(3, NONE);
        for (int n = 0; n < 24; n++) {
            s.effect(0, MOVE_X, AFTER, 0, 1);
        }
        for (int trigger = CLICK; trigger <= AFTER; trigger++) {
            int by = trigger;
            Check.unsupported("a 25th by " + trigger, () -> s.effect(0, MOVE_X, by, 0, 0));
            Check.unsupported("on another slide", () -> s.effect(1, MOVE_X, by, 0, 0));
        }
        Check.due("no build was made", 0, s.state(3));
        Check.due("the length stays", 24, s.state(4));
    }

    private static void amountsOfAnyKind() {
        for (int kind = ENTER; kind <= MOVE_Y; kind++) {
            SlideStage s = Stages.withOneShape();
            s.effect(0, kind, WITH, 0, 4);
            s.tick(1);
            int alpha = s.now(0, ALPHA);
            s.amount(0, 40);
            Check.due("X by kind " + kind, kind == MOVE_X ? 10 : 0, s.now(0, X));
            Check.due("Y by kind " + kind, kind == MOVE_Y ? 10 : 0, s.now(0, Y));
            Check.due("ALPHA by kind " + kind, alpha, s.now(0, ALPHA));
            s.amount(0, -40);
            Check.due("X by kind " + kind, kind == MOVE_X ? -10 : 0, s.now(0, X));
            Check.due("Y by kind " + kind, kind == MOVE_Y ? -10 : 0, s.now(0, Y));
            s.tick(3);
            s.amount(0, 7);
            Check.due("X by kind " + kind + ", done", kind == MOVE_X ? 7 : 0, s.now(0, X));
            Check.due("Y by kind " + kind + ", done", kind == MOVE_Y ? 7 : 0, s.now(0, Y));
        }
    }

    private static void amountOfNoEffect() {
        SlideStage none = Stages.withOneShape();
        for (int effect : Check.beyond(0, -1)) {
            Check.out("amount(" + effect + ", 0) without effects", () -> none.amount(effect, 0));
        }
        SlideStage s = Stages.withOneShape();
        s.effect(0, MOVE_X, WITH, 0, 0);
        for (int effect : Check.beyond(0, 0)) {
            Check.out("amount(" + effect + ", 0)", () -> s.amount(effect, 0));
        }
    }

    private static void noSuchAmount() {
        SlideStage s = Stages.withOneShape();
        for (int kind = ENTER; kind <= MOVE_Y; kind++) {
            int effect = s.effect(0, kind, WITH, 0, 0);
            s.amount(effect, 3);
            for (int amount : Check.beyond(-40, 40)) {
                Check.argument("amount(" + effect + ", " + amount + ")", () -> s.amount(effect, amount));
            }
        }
        Check.due("X stays", 3, s.now(0, X));
        Check.due("Y stays", 3, s.now(0, Y));
    }

    private static void timingOfEach() {
        SlideStage s = Stages.withOneShape();
        s.effect(0, MOVE_X, CLICK, 2, 3);
        expectTiming(s, 0, 2, 5, 1);
        Check.due("before its click", TO_COME, s.timing(0, 3));
        s.click();
        int[] due = {TO_COME, TO_COME, RUNS, RUNS, RUNS, DONE, DONE};
        for (int time = 0; time < due.length; time++) {
            Check.due("at " + time, due[time], s.timing(0, 3));
            expectTiming(s, 0, 2, 5, 1);
            s.tick(1);
        }
    }

    private static void timingOfOtherSlides() {
        SlideStage s = Stages.withSlides(3);
        for (int k = 0; k < 3; k++) {
            s.shape(2 + k, NONE);
            s.effect(k, MOVE_X, WITH, k, 0);
        }
        int[][] due = {{DONE, NONE, NONE}, {NONE, TO_COME, NONE}, {NONE, NONE, TO_COME}};
        for (int at = 0; at < 3; at++) {
            s.jump(at);
            for (int k = 0; k < 3; k++) {
                Check.due("of slide " + k + " at slide " + at, due[at][k], s.timing(k, 3));
                expectTiming(s, k, k, k, 0);
            }
        }
    }

    private static void timingOfOthers() {
        SlideStage s = Stages.withSlides(2);
        s.shape(2, NONE);
        s.effect(0, MOVE_X, CLICK, 1, 1);
        for (int k = 0; k < 2; k++) {
            s.jump(k);
            for (int what : Check.beyond(0, 3)) {
                Check.due("timing(0, " + what + ")", NONE, s.timing(0, what));
            }
        }
    }

    private static void timingOfNoEffect() {
        SlideStage none = Stages.withOneShape();
        for (int effect : Check.beyond(0, -1)) {
            Check.out("timing(" + effect + ", 0) without effects", () -> none.timing(effect, 0));
        }
        SlideStage s = Stages.withOneShape();
        s.effect(0, MOVE_X, WITH, 0, 0);
        for (int effect : Check.beyond(0, 0)) {
            for (int what = -1; what <= 4; what++) {
                int asked = what;
                Check.out("timing(" + effect + ", " + what + ")", () -> s.timing(effect, asked));
            }
        }
    }

    private static void expectTiming(SlideStage s, int effect, int start, int end, int build) {
        Check.due("start of " + effect, start, s.timing(effect, 0));
        Check.due("end of " + effect, end, s.timing(effect, 1));
        Check.due("build of " + effect, build, s.timing(effect, 2));
    }
}
