/** Promises 10 to 14: paragraphs, the scale that fits, lines and numbers. */
public final class TextTest {
    public static void main(String[] args) {
        writeNumbersParagraphs();
        writeWrongInputs();
        scaleGoesDown();
        scaleOverflows();
        scaleWithoutText();
        linesBreakAtTheRoom();
        levelsTakeRoom();
        wordsSkipEmptyBytes();
        mostLines();
        lineWrongInputs();
        numbers();
        resolvedPropertiesCount();
        Check.end();
    }

    private static void writeNumbersParagraphs() {
        SlideStage s = Stages.withOneShape();
        s.shape(0, -1);
        Check.due("10 first", 0, s.write(0, 0, 1));
        Check.due("10 second", 1, s.write(0, 1, 15));
        Check.due("10 third", 2, s.write(0, 2, 0x0F0F0F0F));
        Check.due("10 of another shape", 0, s.write(1, 0, 1));
        Check.due("10 fourth", 3, s.write(0, 0, 0x01000000));
        Check.state("10 fifth", () -> s.write(0, 0, 1));
        Check.argument("10 level goes before the limit", () -> s.write(0, 3, 1));
        Check.argument("10 words go before the limit", () -> s.write(0, 0, 0));
        Check.due("10 another shape has its own limit", 1, s.write(1, 0, 1));
    }

    private static void writeWrongInputs() {
        SlideStage s = Stages.withOneShape();
        Check.out("10 shape -1", () -> s.write(-1, 0, 1));
        Check.out("10 shape 1", () -> s.write(1, 0, 1));
        Check.out("10 shape goes first", () -> s.write(1, 9, 0));
        Check.argument("10 level -1", () -> s.write(0, -1, 1));
        Check.argument("10 level 3", () -> s.write(0, 3, 1));
        Check.argument("10 no words", () -> s.write(0, 0, 0));
        Check.argument("10 lowest byte", () -> s.write(0, 0, 16));
        Check.argument("10 second byte", () -> s.write(0, 0, 0x1000));
        Check.argument("10 third byte", () -> s.write(0, 0, 0x100000));
        Check.argument("10 highest byte", () -> s.write(0, 0, 0x10000001));
        Check.argument("10 a byte of 255", () -> s.write(0, 0, -1));
        Check.argument("10 a byte of 128", () -> s.write(0, 0, 0x80000001));
        Check.due("10 nothing was written", 0, s.lines(0));
        Check.due("10 so this is the first", 0, s.write(0, 0, 1));
    }

    private static void scaleGoesDown() {
        SlideStage s = Stages.withBox(40, 4, 4);
        s.write(0, 0, 0x0301);
        Check.due("11 4 fits", 4, s.scale(0));
        s.set(0, 3, 3);
        Check.due("11 3 fits", 3, s.scale(0));
        s.set(0, 3, 2);
        Check.due("11 2 fits", 2, s.scale(0));
        s.set(0, 3, 1);
        Check.due("11 1 fits", 1, s.scale(0));
        s.set(0, 3, 40);
        s.set(0, 6, 2);
        Check.due("11 not above its SCALE", 2, s.scale(0));
        s.set(0, 6, 4);
        s.set(0, 2, 19);
        s.set(0, 3, 7);
        Check.due("11 two lines at 4 are too high, one at 3 is not", 3, s.scale(0));
        Check.due("12 one line", 1, s.lines(0));
        s.set(0, 3, 8);
        Check.due("11 two lines at 4", 4, s.scale(0));
        Check.due("12 two lines", 2, s.lines(0));
        Check.out("11 shape -1", () -> s.scale(-1));
        Check.out("11 shape 1", () -> s.scale(1));
    }

    private static void scaleOverflows() {
        SlideStage s = Stages.withBox(3, 1, 4);
        s.write(0, 0, 0x0202);
        Check.due("11 overflows", 0, s.scale(0));
        Check.due("12 lines at 1", 2, s.lines(0));
        Check.due("13 width at 1", 2, s.line(0, 1, 3));
        s.set(0, 2, 5);
        Check.due("11 fits", 1, s.scale(0));
        s.set(0, 3, 0);
        Check.due("11 no height", 0, s.scale(0));
        Check.due("12 one line at 1", 1, s.lines(0));
        Check.due("13 its width", 5, s.line(0, 0, 3));
    }

    private static void scaleWithoutText() {
        SlideStage s = Stages.withBox(0, 0, 3);
        Check.due("11 without a text", 3, s.scale(0));
        Check.due("12 without a text", 0, s.lines(0));
        Check.due("13 without a text", -1, s.line(0, 0, 0));
        s.unset(0, 6);
        Check.due("11 without a text, of the theme", 4, s.scale(0));
    }

    private static void linesBreakAtTheRoom() {
        SlideStage s = Stages.withBox(9, 40, 1);
        s.write(0, 0, 0x04040509);
        Check.due("12 as wide as the room", 3, s.lines(0));
        expectLine(s, 0, 0, 0, 2, 9);
        expectLine(s, 1, 0, 2, 1, 5);
        expectLine(s, 2, 0, 3, 1, 9);
        s.set(0, 2, 8);
        Check.due("12 one less", 4, s.lines(0));
        expectLine(s, 0, 0, 0, 1, 4);
        expectLine(s, 3, 0, 3, 1, 9);
        s.set(0, 2, 40);
        s.write(0, 0, 1);
        Check.due("12 a paragraph begins a line", 2, s.lines(0));
        expectLine(s, 0, 0, 0, 4, 25);
        expectLine(s, 1, 1, 0, 1, 1);
        s.set(0, 6, 2);
        Check.due("12 at 2", 3, s.lines(0));
        expectLine(s, 0, 0, 0, 3, 30);
        expectLine(s, 1, 0, 3, 1, 18);
        expectLine(s, 2, 1, 0, 1, 2);
        Check.out("12 shape -1", () -> s.lines(-1));
        Check.out("12 shape 1", () -> s.lines(1));
    }

    private static void levelsTakeRoom() {
        SlideStage s = Stages.withBox(14, 40, 2);
        s.write(0, 0, 0x0303);
        s.write(0, 1, 0x0202);
        s.write(0, 2, 0x0101);
        Check.due("12 levels, just enough", 3, s.lines(0));
        expectLine(s, 0, 0, 0, 2, 14);
        expectLine(s, 1, 1, 0, 2, 10);
        expectLine(s, 2, 2, 0, 2, 6);
        s.set(0, 2, 13);
        Check.due("12 levels, one less", 6, s.lines(0));
        s.set(0, 2, 0);
        Check.due("12 less room than none", 6, s.lines(0));
        expectLine(s, 5, 2, 1, 1, 2);
    }

    private static void wordsSkipEmptyBytes() {
        SlideStage s = Stages.withBox(40, 40, 1);
        s.write(0, 0, 0x05000300);
        expectLine(s, 0, 0, 0, 2, 9);
        s.set(0, 2, 5);
        expectLine(s, 0, 0, 0, 1, 5);
        expectLine(s, 1, 0, 1, 1, 3);
        s.write(0, 0, 0x0F);
        expectLine(s, 2, 1, 0, 1, 15);
        Check.due("12 and no more", 3, s.lines(0));
    }

    private static void mostLines() {
        SlideStage s = Stages.withBox(0, 40, 4);
        for (int p = 0; p < 4; p++) {
            s.write(0, 2, 0x0F0E0D0C);
        }
        Check.due("12 sixteen lines", 16, s.lines(0));
        Check.due("11 at 2 they are 32 high", 2, s.scale(0));
        expectLine(s, 15, 3, 3, 1, 24);
        Check.due("13 no line 16", -1, s.line(0, 16, 0));
    }

    private static void lineWrongInputs() {
        SlideStage s = Stages.withBox(40, 40, 1);
        s.write(0, 0, 0x0102);
        for (int what = 0; what < 4; what++) {
            Check.due("13 line -1", -1, s.line(0, -1, what));
            Check.due("13 line 1", -1, s.line(0, 1, what));
            Check.due("13 far line", -1, s.line(0, Integer.MAX_VALUE, what));
        }
        Check.due("13 what 4", -1, s.line(0, 0, 4));
        Check.due("13 what -1", -1, s.line(0, 0, -1));
        Check.out("13 shape -1", () -> s.line(-1, 0, 0));
        Check.out("13 shape 1", () -> s.line(1, 0, 9));
    }

    private static void numbers() {
        expectNumbers(new int[] {0, 0, 0, 0}, new int[] {1, 2, 3, 4});
        expectNumbers(new int[] {0, 1, 0, 1}, new int[] {1, 1, 2, 1});
        expectNumbers(new int[] {1, 2, 1, 2}, new int[] {1, 1, 2, 1});
        expectNumbers(new int[] {1, 0, 1, 1}, new int[] {1, 1, 1, 2});
        expectNumbers(new int[] {2, 2, 1, 2}, new int[] {1, 2, 1, 1});
        expectNumbers(new int[] {1, 2, 2, 1}, new int[] {1, 1, 2, 2});
        expectNumbers(new int[] {0, 2, 1, 2}, new int[] {1, 1, 1, 1});
        SlideStage s = Stages.withOneShape();
        Check.due("14 no text", -1, s.number(0, 0));
        s.write(0, 0, 1);
        Check.due("14 paragraph -1", -1, s.number(0, -1));
        Check.due("14 paragraph 1", -1, s.number(0, 1));
        Check.out("14 shape -1", () -> s.number(-1, 0));
        Check.out("14 shape 1", () -> s.number(1, 7));
    }

    private static void resolvedPropertiesCount() {
        SlideStage s = Stages.withOneSlide();
        int layout = s.shape(1, 0);
        int slide = s.shape(2, 0);
        s.write(layout, 0, 0x0F);
        Check.due("12 a text is not taken from a layout", 0, s.lines(slide));
        s.write(slide, 0, 0x0101);
        Check.due("11 in 8 by 4 of the theme", 2, s.scale(slide));
        s.set(layout, 2, 12);
        Check.due("11 WIDTH of the layout", 4, s.scale(slide));
        s.set(layout, 3, 3);
        Check.due("11 HEIGHT of the layout", 3, s.scale(slide));
        s.set(layout, 6, 1);
        Check.due("11 SCALE of the layout", 1, s.scale(slide));
    }

    private static void expectLine(SlideStage s, int k, int paragraph, int first, int words, int wide) {
        Check.due("13 paragraph of line " + k, paragraph, s.line(0, k, 0));
        Check.due("13 first word of line " + k, first, s.line(0, k, 1));
        Check.due("13 words of line " + k, words, s.line(0, k, 2));
        Check.due("13 width of line " + k, wide, s.line(0, k, 3));
    }

    private static void expectNumbers(int[] levels, int[] numbers) {
        SlideStage s = Stages.withOneShape();
        for (int level : levels) {
            s.write(0, level, 1);
        }
        for (int p = 0; p < numbers.length; p++) {
            Check.due("14 number of " + p, numbers[p], s.number(0, p));
        }
        Check.due("14 no such", -1, s.number(0, numbers.length));
    }
}
