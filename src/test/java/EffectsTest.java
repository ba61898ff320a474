/** Promises 15 to 17: effects, their amounts and their timing. */
public final class EffectsTest {
    public static void main(String[] args) {
        numbersOfEffects();
        wrongInputs();
        onNoSlide();
        limit();
        startsAndEnds();
        firstOfABuild();
        buildsOfEachSlide();
        progress();
        progressWithoutDuration();
        amounts();
        timingWrongInputs();
        Check.end();
    }

    private static void numbersOfEffects() {
        SlideStage s = Stages.withSlides(2);
        s.shape(2, -1);
        s.shape(3, 4);
        Check.due("15 first", 0, s.effect(0, 0, 0, 0, 0));
        Check.due("15 of another slide", 1, s.effect(1, 3, 2, 50, 50));
        Check.due("15 third", 2, s.effect(0, 2, 1, 50, 0));
    }

    private static void wrongInputs() {
        SlideStage s = Stages.withOneShape();
        Check.out("15 shape -1", () -> s.effect(-1, 0, 0, 0, 0));
        Check.out("15 shape 1", () -> s.effect(1, 0, 0, 0, 0));
        Check.out("15 shape goes first", () -> s.effect(1, 9, 9, 99, 99));
        Check.argument("15 kind -1", () -> s.effect(0, -1, 0, 0, 0));
        Check.argument("15 kind 4", () -> s.effect(0, 4, 0, 0, 0));
        Check.argument("15 trigger -1", () -> s.effect(0, 0, -1, 0, 0));
        Check.argument("15 trigger 3", () -> s.effect(0, 0, 3, 0, 0));
        Check.argument("15 delay -1", () -> s.effect(0, 0, 0, -1, 0));
        Check.argument("15 delay 51", () -> s.effect(0, 0, 0, 51, 0));
        Check.argument("15 duration -1", () -> s.effect(0, 0, 0, 0, -1));
        Check.argument("15 duration 51", () -> s.effect(0, 0, 0, 0, 51));
        Check.out("15 nothing was made", () -> s.timing(0, 0));
        Check.due("15 and no build", 0, s.state(3));
    }

    private static void onNoSlide() {
        SlideStage s = Stages.withOneSlide();
        s.shape(0, -1);
        s.shape(1, 0);
        Check.state("15 on a master", () -> s.effect(0, 0, 0, 0, 0));
        Check.state("15 on a layout", () -> s.effect(1, 0, 0, 0, 0));
        Check.argument("15 an argument goes before the slide", () -> s.effect(0, 4, 0, 0, 0));
    }

    private static void limit() {
        SlideStage s = Stages.withOneShape();
        s.shape(1, -1);
        for (int k = 0; k < 24; k++) {
            Check.due("15 effect " + k, k, s.effect(0, 2, 2, 50, 50));
        }
        Check.due("17 the last end", 2400, s.timing(23, 1));
        Check.due("22 the length", 2400, s.state(4));
        Check.unsupported("15 effect 24", () -> s.effect(0, 2, 2, 0, 0));
        Check.state("15 no slide goes before the limit", () -> s.effect(1, 2, 2, 0, 0));
        Check.argument("15 an argument goes before the limit", () -> s.effect(0, 2, 2, 0, 51));
        Check.out("15 there is no effect 24", () -> s.timing(24, 0));
    }

    private static void startsAndEnds() {
        SlideStage s = Stages.withOneShape();
        s.shape(2, -1);
        s.effect(0, 2, 0, 3, 4);
        expectTiming(s, 0, 3, 7, 1);
        s.effect(1, 2, 2, 2, 5);
        expectTiming(s, 1, 9, 14, 1);
        s.effect(0, 2, 1, 1, 1);
        expectTiming(s, 2, 8, 9, 1);
        s.effect(0, 2, 1, 0, 50);
        expectTiming(s, 3, 7, 57, 1);
        s.effect(0, 2, 2, 0, 0);
        expectTiming(s, 4, 57, 57, 1);
        s.effect(1, 2, 0, 6, 0);
        expectTiming(s, 5, 6, 6, 2);
        s.effect(1, 2, 1, 2, 2);
        expectTiming(s, 6, 2, 4, 2);
        s.effect(1, 2, 2, 2, 2);
        expectTiming(s, 7, 6, 8, 2);
    }

    private static void firstOfABuild() {
        SlideStage after = Stages.withOneShape();
        after.effect(0, 0, 2, 1, 2);
        expectTiming(after, 0, 1, 3, 0);
        SlideStage with = Stages.withOneShape();
        with.effect(0, 0, 1, 1, 2);
        expectTiming(with, 0, 1, 3, 0);
        with.effect(0, 0, 1, 5, 2);
        expectTiming(with, 1, 5, 7, 0);
        with.effect(0, 0, 0, 0, 9);
        expectTiming(with, 2, 0, 9, 1);
    }

    private static void buildsOfEachSlide() {
        SlideStage s = Stages.withSlides(2);
        s.shape(2, -1);
        s.shape(3, -1);
        s.effect(0, 2, 0, 0, 10);
        s.effect(1, 2, 2, 1, 1);
        expectTiming(s, 1, 1, 2, 0);
        s.effect(0, 2, 2, 0, 3);
        expectTiming(s, 2, 10, 13, 1);
        s.effect(1, 2, 0, 0, 1);
        expectTiming(s, 3, 0, 1, 1);
        s.effect(0, 2, 0, 0, 1);
        expectTiming(s, 4, 0, 1, 2);
    }

    private static void progress() {
        SlideStage s = Stages.withSlides(2);
        s.shape(2, -1);
        s.effect(0, 2, 1, 2, 3);
        s.effect(0, 2, 0, 1, 1);
        Check.due("17 to come", 0, s.timing(0, 3));
        s.tick(1);
        Check.due("17 still to come", 0, s.timing(0, 3));
        s.tick(1);
        Check.due("17 runs at its start", 1, s.timing(0, 3));
        s.tick(2);
        Check.due("17 still runs", 1, s.timing(0, 3));
        Check.due("17 the next build is to come", 0, s.timing(1, 3));
        s.tick(1);
        Check.due("17 done at its end", 2, s.timing(0, 3));
        s.jump(0);
        Check.due("17 to come again", 0, s.timing(0, 3));
        s.click();
        Check.due("17 a build before is done", 2, s.timing(0, 3));
        Check.due("17 to come in its build", 0, s.timing(1, 3));
        s.tick(1);
        Check.due("17 runs in its build", 1, s.timing(1, 3));
        s.click();
        Check.due("17 at another slide", -1, s.timing(0, 3));
        Check.due("17 start at another slide", 2, s.timing(0, 0));
        Check.due("17 end at another slide", 5, s.timing(0, 1));
        Check.due("17 build at another slide", 1, s.timing(1, 2));
    }

    private static void progressWithoutDuration() {
        SlideStage s = Stages.withOneShape();
        s.effect(0, 2, 1, 1, 0);
        s.amount(0, 5);
        Check.due("17 to come", 0, s.timing(0, 3));
        s.tick(1);
        Check.due("17 done at once", 2, s.timing(0, 3));
        Check.due("23 moved at once", 5, s.now(0, 0));
    }

    private static void amounts() {
        SlideStage s = Stages.withOneShape();
        s.effect(0, 2, 1, 0, 0);
        s.effect(0, 0, 1, 0, 0);
        Check.due("16 at first 0", 0, s.now(0, 0));
        s.amount(0, 40);
        Check.due("16 40", 40, s.now(0, 0));
        s.amount(0, -40);
        Check.due("16 -40", -40, s.now(0, 0));
        s.amount(1, 7);
        Check.due("16 of ENTER it does not matter for X", -40, s.now(0, 0));
        Check.due("16 nor for ALPHA", 255, s.now(0, 5));
        Check.out("16 effect -1", () -> s.amount(-1, 0));
        Check.out("16 effect 2", () -> s.amount(2, 0));
        Check.out("16 effect goes before amount", () -> s.amount(2, 41));
        Check.argument("16 41", () -> s.amount(0, 41));
        Check.argument("16 -41", () -> s.amount(0, -41));
        Check.due("16 it stays", -40, s.now(0, 0));
    }

    private static void timingWrongInputs() {
        SlideStage s = Stages.withOneShape();
        s.effect(0, 0, 0, 1, 1);
        Check.due("17 what 4", -1, s.timing(0, 4));
        Check.due("17 what -1", -1, s.timing(0, -1));
        Check.out("17 effect -1", () -> s.timing(-1, 0));
        Check.out("17 effect 1", () -> s.timing(1, 9));
    }

    private static void expectTiming(SlideStage s, int effect, int start, int end, int build) {
        Check.due("17 start of " + effect, start, s.timing(effect, 0));
        Check.due("17 end of " + effect, end, s.timing(effect, 1));
        Check.due("17 build of " + effect, build, s.timing(effect, 2));
    }
}
