/** Stages that several tests begin with. */
final class Stages {
    static final int MASTER = 0;
    static final int LAYOUT = 1;
    static final int SLIDE = 2;

    private Stages() {
    }

    /** Page 0 a master, page 1 its layout, page 2 a slide of that. */
    static SlideStage withOneSlide() {
        SlideStage stage = new SlideStage();
        stage.page(0, SlideStage.NONE);
        stage.page(1, MASTER);
        stage.page(2, LAYOUT);
        return stage;
    }

    /** The same, with so many slides in all: pages 2, 3, .. */
    static SlideStage withSlides(int slides) {
        SlideStage stage = withOneSlide();
        for (int k = 1; k < slides; k++) {
            stage.page(2, LAYOUT);
        }
        return stage;
    }

    /** One slide with a free shape, number 0. */
    static SlideStage withOneShape() {
        SlideStage stage = withOneSlide();
        stage.shape(SLIDE, SlideStage.NONE);
        return stage;
    }

    /** A text box: one free shape of that WIDTH, HEIGHT and SCALE. */
    static SlideStage withBox(int width, int height, int scale) {
        SlideStage stage = withOneShape();
        stage.set(0, 2, width);
        stage.set(0, 3, height);
        stage.set(0, 6, scale);
        return stage;
    }
}
