/** The sentences on texts that name a boundary case: a test for each. */
public final class TextEdgesTest {
    private static final int NONE = SlideStage.NONE;
    private static final int WIDTH = 2;
    private static final int HEIGHT = 3;
    private static final int SCALE = 6;
    private static final String NO_SHAPE = "IndexOutOfBoundsException when there is no such shape";

    public static void main(String[] args) {
        paragraphs();
        linesOfAText();
        scales();
        writing();
        asking();
        Check.end();
    }

    private static void paragraphs() {
        Check.sentence("Terms", "A shape's TEXT has at most 4 PARAGRAPHS", TextEdgesTest::fourParagraphs);
        Check.sentence("Terms", "each with a LEVEL 0 .. 2", TextEdgesTest::threeLevels);
        Check.sentence("Terms", "one to four words of 1 .. 15 letters", TextEdgesTest::oneToFourWords);
        Check.sentence("Terms", "A paragraph's NUMBER is how many there are of its level, with itself,"
                + " behind the last one before it of a lesser level (or from the first one on).",
                TextEdgesTest::numbersOfAllTexts);
    }

    private static void linesOfAText() {
        Check.sentence("Terms", "paragraph by paragraph, each from a new line on",
                TextEdgesTest::paragraphsBeginLines);
        Check.sentence("Terms", "a letter is s wide, and so is the space between two words of a line",
                TextEdgesTest::widths);
        Check.sentence("Terms", "ROOM is WIDTH less 2 s for each level (with the resolved WIDTH)",
                TextEdgesTest::rooms);
        Check.sentence("Terms", "A word comes to the line at hand if that has no word",
                TextEdgesTest::wordsWiderThanTheRoom);
        Check.sentence("Terms", "or would not be wider than ROOM with it", TextEdgesTest::justEnoughRoom);
        Check.sentence("Terms", "otherwise it begins a new line", TextEdgesTest::newLines);
    }

    private static void scales() {
        Check.sentence("Terms", "The text FITS if s times the number of lines is not more than HEIGHT.",
                TextEdgesTest::fitting);
        Check.sentence("Terms", "ITS scale is the greatest one from the resolved SCALE down to 1 at which"
                + " it fits", TextEdgesTest::greatestScale);
        Check.sentence("Terms", "if there is none it OVERFLOWS, and its lines are those at 1",
                TextEdgesTest::overflowing);
    }

    private static void writing() {
        Check.sentence("Promise 10", "its words have as many letters as the bytes of words that are not 0"
                + " say, the highest first", TextEdgesTest::bytesOfWords);
        Check.sentence("Promise 10", "answers its number", TextEdgesTest::numbersOfParagraphs);
        Check.sentence("Promise 10", NO_SHAPE, TextEdgesTest::writeOfNoShape);
        Check.sentence("Promise 10", "IllegalArgumentException when level is not 0 .. 2",
                TextEdgesTest::noSuchLevel);
        Check.sentence("Promise 10", "a byte is more than 15", TextEdgesTest::tooManyLetters);
        Check.sentence("Promise 10", "or all are 0", TextEdgesTest::noLetters);
        Check.sentence("Promise 10", "IllegalStateException when there are 4",
                TextEdgesTest::noFifthParagraph);
    }

    private static void asking() {
        Check.sentence("Promise 11", "(without any, its resolved SCALE)", TextEdgesTest::scaleWithoutText);
        Check.sentence("Promise 11", "0 when it overflows", TextEdgesTest::scaleOfAnOverflow);
        Check.sentence("Promise 11", NO_SHAPE, TextEdgesTest::scaleOfNoShape);
        Check.sentence("Promise 12", "How many lines a shape's text has.", TextEdgesTest::fewestAndMostLines);
        Check.sentence("Promise 12", NO_SHAPE, TextEdgesTest::linesOfNoShape);
        Check.sentence("Promise 13", "what = 0 its paragraph, 1 its first word's number in that (from 0),"
                + " 2 how many words it has, 3 how wide it is with its spaces", TextEdgesTest::whatALineHas);
        Check.sentence("Promise 13", "NONE when there is no such line or what", TextEdgesTest::noSuchLine);
        Check.sentence("Promise 13", NO_SHAPE, TextEdgesTest::lineOfNoShape);
        Check.sentence("Promise 14", "NONE when there is no such", TextEdgesTest::noSuchParagraph);
        Check.sentence("Promise 14", NO_SHAPE, TextEdgesTest::numberOfNoShape);
    }

    private static void fourParagraphs() {
        SlideStage s = Stages.withOneSlide();
        for (int page = 0; page < 3; page++) {
            s.shape(page, 0);
            int shape = page;
            for (int p = 0; p < 4; p++) {
                Check.due("paragraph " + p + " of " + shape, p, s.write(shape, p % 3, 1));
            }
            Check.state("a fifth of " + shape, () -> s.write(shape, 0, 1));
            Check.due("four lines", 4, s.lines(shape));
            Check.due("the fourth", 3, s.line(shape, 3, 0));
        }
    }

    private static void threeLevels() {
        for (int level = 0; level < 3; level++) {
            SlideStage s = Stages.withBox(7, 40, 1);
            Check.due("level " + level, 0, s.write(0, level, 0x0303));
            // Room is 7, 5 and 3, and two words of three letters take 7.
            Check.due("lines of level " + level, level == 0 ? 1 : 2, s.lines(0));
            for (int wrong : Check.beyond(0, 2)) {
                Check.argument("level " + wrong, () -> s.write(0, wrong, 0x0303));
            }
        }
    }

    private static void oneToFourWords() {
        int[] least = {0x01, 0x0101, 0x010101, 0x01010101};
        for (int n = 1; n <= 4; n++) {
            SlideStage s = Stages.withBox(40, 40, 1);
            s.write(0, 0, least[n - 1]);
            expectLine(s, 0, 0, 0, n, 2 * n - 1);
            s.write(0, 0, 15 * least[n - 1]);
            // Two words of 15 letters take 31, a third one would take 47.
            expectLine(s, 1, 1, 0, Math.min(n, 2), Math.min(n, 2) * 16 - 1);
            Check.due("lines of " + n + " words", n <= 2 ? 2 : 3, s.lines(0));
        }
    }

    /** Counted as one would by hand: a lesser level lets those behind it begin again. */
    private static void numbersOfAllTexts() {
        for (int text = 0; text < 81; text++) {
            SlideStage s = Stages.withOneShape();
            int[] counted = new int[3];
            int[] due = new int[4];
            for (int p = 0, rest = text; p < 4; p++, rest /= 3) {
                int level = rest % 3;
                s.write(0, level, 1);
                counted[level]++;
                for (int deeper = level + 1; deeper < 3; deeper++) {
                    counted[deeper] = 0;
                }
                due[p] = counted[level];
            }
            for (int p = 0; p < 4; p++) {
                Check.due("text " + text + ", number of " + p, due[p], s.number(0, p));
            }
        }
    }

    private static void paragraphsBeginLines() {
        SlideStage s = Stages.withBox(40, 40, 1);
        s.write(0, 0, 0x0101);
        s.write(0, 0, 0x01);
        s.write(0, 2, 0x01);
        Check.due("three lines, though one had the room", 3, s.lines(0));
        expectLine(s, 0, 0, 0, 2, 3);
        expectLine(s, 1, 1, 0, 1, 1);
        expectLine(s, 2, 2, 0, 1, 1);
    }

    private static void widths() {
        for (int scale = 1; scale <= 4; scale++) {
            SlideStage s = Stages.withBox(40, 40, scale);
            s.write(0, 0, 0x03);
            s.write(0, 0, 0x0102);
            s.write(0, 0, 0x02010201);
            expectLine(s, 0, 0, 0, 1, 3 * scale);
            expectLine(s, 1, 1, 0, 2, 4 * scale);
            expectLine(s, 2, 2, 0, 4, 9 * scale);
        }
    }

    private static void rooms() {
        for (int scale = 1; scale <= 4; scale++) {
            for (int level = 0; level < 3; level++) {
                SlideStage s = Stages.withBox(4 * scale + 2 * scale * level, 40, scale);
                s.write(0, level, 0x0102);
                Check.due("room for both at " + scale, 1, s.lines(0));
                s.set(0, WIDTH, 4 * scale + 2 * scale * level - 1);
                Check.due("one less at " + scale, 2, s.lines(0));
                Check.due("it is still at " + scale, scale, s.scale(0));
            }
        }
        SlideStage s = Stages.withOneSlide();
        s.shape(1, 3);
        s.shape(2, 3);
        s.theme(SCALE, 1);
        s.theme(HEIGHT, 40);
        s.write(1, 1, 0x0503);
        Check.due("in the theme's 8", 2, s.lines(1));
        s.set(0, WIDTH, 11);
        Check.due("in the layout's 11", 1, s.lines(1));
        s.set(1, WIDTH, 10);
        Check.due("in its own 10", 2, s.lines(1));
    }

    private static void wordsWiderThanTheRoom() {
        SlideStage s = Stages.withBox(3, 40, 1);
        s.write(0, 0, 0x05010109);
        Check.due("wide, two small ones, wide", 3, s.lines(0));
        expectLine(s, 0, 0, 0, 1, 5);
        expectLine(s, 1, 0, 1, 2, 3);
        expectLine(s, 2, 0, 3, 1, 9);
        s.set(0, WIDTH, 0);
        Check.due("no width at all", 4, s.lines(0));
        expectLine(s, 3, 0, 3, 1, 9);
        SlideStage less = Stages.withBox(0, 40, 4);
        less.write(0, 2, 0x0101);
        Check.due("16 less than no room", 2, less.lines(0));
        Check.due("it fits though", 4, less.scale(0));
        expectLine(less, 0, 0, 0, 1, 4);
        expectLine(less, 1, 0, 1, 1, 4);
    }

    private static void justEnoughRoom() {
        SlideStage s = Stages.withBox(15, 40, 1);
        s.write(0, 0, 0x03030303);
        Check.due("all in 15", 1, s.lines(0));
        expectLine(s, 0, 0, 0, 4, 15);
        s.set(0, WIDTH, 14);
        expectLine(s, 0, 0, 0, 3, 11);
        s.set(0, WIDTH, 11);
        expectLine(s, 0, 0, 0, 3, 11);
        s.set(0, WIDTH, 10);
        expectLine(s, 0, 0, 0, 2, 7);
        s.set(0, WIDTH, 7);
        expectLine(s, 0, 0, 0, 2, 7);
        s.set(0, WIDTH, 6);
        expectLine(s, 0, 0, 0, 1, 3);
    }

    private static void newLines() {
        SlideStage s = Stages.withBox(5, 40, 1);
        s.write(0, 0, 0x02050103);
        Check.due("a word does not go back to a line with room", 3, s.lines(0));
        expectLine(s, 0, 0, 0, 1, 2);
        expectLine(s, 1, 0, 1, 1, 5);
        expectLine(s, 2, 0, 2, 2, 5);
        s.set(0, WIDTH, 4);
        Check.due("each on its own", 4, s.lines(0));
        for (int k = 0; k < 4; k++) {
            Check.due("first word of " + k, k, s.line(0, k, 1));
            Check.due("words of " + k, 1, s.line(0, k, 2));
        }
    }

    private static void fitting() {
        for (int scale = 1; scale <= 4; scale++) {
            for (int lines = 1; lines <= 4; lines++) {
                SlideStage s = Stages.withBox(40, scale * lines, scale);
                for (int p = 0; p < lines; p++) {
                    s.write(0, 0, 1);
                }
                Check.due(lines + " lines at " + scale + ", just high enough", scale, s.scale(0));
                s.set(0, HEIGHT, scale * lines - 1);
                Check.due(lines + " lines at " + scale + ", one less", scale - 1, s.scale(0));
            }
        }
    }

    private static void greatestScale() {
        for (int most = 1; most <= 4; most++) {
            for (int height = 0; height <= 5; height++) {
                SlideStage s = Stages.withBox(40, height, most);
                s.write(0, 0, 1);
                Check.due("of " + most + " in " + height, Math.min(most, height), s.scale(0));
                Check.due("its line", Math.max(1, Math.min(most, height)), s.line(0, 0, 3));
            }
        }
        SlideStage s = Stages.withOneSlide();
        s.shape(0, 0);
        s.shape(2, 0);
        s.theme(HEIGHT, 40);
        s.write(1, 0, 1);
        Check.due("the theme's", 4, s.scale(1));
        s.set(0, SCALE, 2);
        Check.due("the master's", 2, s.scale(1));
        s.set(1, SCALE, 3);
        Check.due("its own", 3, s.scale(1));
        SlideStage fewer = Stages.withBox(12, 5, 4);
        fewer.write(0, 0, 0x010101);
        // At 4 two lines are 8 high, at 3 two are 6; at 2 all is in one line.
        Check.due("fewer lines at a lesser scale", 2, fewer.scale(0));
        Check.due("its lines are those at it", 1, fewer.lines(0));
        expectLine(fewer, 0, 0, 0, 3, 10);
    }

    private static void overflowing() {
        SlideStage s = Stages.withBox(7, 0, 4);
        s.write(0, 0, 0x01010101);
        Check.due("overflows", 0, s.scale(0));
        Check.due("one line at 1, where four are at 4", 1, s.lines(0));
        expectLine(s, 0, 0, 0, 4, 7);
        s.write(0, 1, 0x0303);
        Check.due("still", 0, s.scale(0));
        Check.due("lines at 1", 3, s.lines(0));
        expectLine(s, 2, 1, 1, 1, 3);
        s.set(0, HEIGHT, 2);
        Check.due("one line too many", 0, s.scale(0));
        s.set(0, HEIGHT, 3);
        Check.due("no longer", 1, s.scale(0));
        SlideStage at1 = Stages.withBox(40, 1, 1);
        at1.write(0, 0, 1);
        at1.write(0, 0, 1);
        Check.due("SCALE 1 overflows, too", 0, at1.scale(0));
        Check.due("with its lines", 2, at1.lines(0));
    }

    private static void bytesOfWords() {
        for (int shift = 0; shift <= 24; shift += 8) {
            SlideStage s = Stages.withBox(40, 40, 1);
            s.write(0, 0, 1 << shift);
            s.write(0, 0, 15 << shift);
            expectLine(s, 0, 0, 0, 1, 1);
            expectLine(s, 1, 1, 0, 1, 15);
        }
        int[] words = {0x04030201, 0x05000003, 0x00060002, 0x07000800};
        int[][] letters = {{4, 3, 2, 1}, {5, 3}, {6, 2}, {7, 8}};
        for (int i = 0; i < words.length; i++) {
            SlideStage s = Stages.withBox(0, 40, 1);
            s.write(0, 0, words[i]);
            Check.due("words of " + words[i], letters[i].length, s.lines(0));
            for (int k = 0; k < letters[i].length; k++) {
                expectLine(s, k, 0, k, 1, letters[i][k]);
            }
        }
    }

    private static void numbersOfParagraphs() {
        SlideStage s = Stages.withOneShape();
        s.shape(2, NONE);
        for (int p = 0; p < 4; p++) {
            Check.due("paragraph " + p, p, s.write(0, 0, 1));
            Check.due("paragraph " + p + " of another", p, s.write(1, 0, 1));
        }
    }

    private static void writeOfNoShape() {
        SlideStage none = Stages.withOneSlide();
        for (int shape : Check.beyond(0, -1)) {
            Check.out("write(" + shape + ", 0, 1) without shapes", () -> none.write(shape, 0, 1));
        }
        SlideStage s = Stages.withOneShape();
        for (int shape : Check.beyond(0, 0)) {
            Check.out("write(" + shape + ", 0, 1)", () -> s.write(shape, 0, 1));
        }
    }

    private static void noSuchLevel() {
        SlideStage s = Stages.withOneShape();
        for (int level : Check.beyond(0, 2)) {
            Check.argument("write(0, " + level + ", 1)", () -> s.write(0, level, 1));
        }
        Check.due("nothing was written", 0, s.lines(0));
    }

    private static void tooManyLetters() {
        SlideStage s = Stages.withOneShape();
        int[] letters = {16, 17, 31, 32, 64, 127, 128, 240, 255};
        for (int shift = 0; shift <= 24; shift += 8) {
            for (int many : letters) {
                int alone = many << shift;
                int amongOthers = alone | 0x01010101 & ~(0xFF << shift);
                Check.argument("write(0, 0, " + alone + ")", () -> s.write(0, 0, alone));
                Check.argument("write(0, 0, " + amongOthers + ")", () -> s.write(0, 0, amongOthers));
            }
        }
        Check.argument("all are 255", () -> s.write(0, 0, -1));
        Check.argument("the lowest number", () -> s.write(0, 0, Integer.MIN_VALUE));
        Check.argument("the highest number", () -> s.write(0, 0, Integer.MAX_VALUE));
        Check.due("nothing was written", 0, s.lines(0));
    }

    private static void noLetters() {
        SlideStage s = Stages.withOneShape();
        for (int level = 0; level < 3; level++) {
            int of = level;
            Check.argument("write(0, " + level + ", 0)", () -> s.write(0, of, 0));
        }
        Check.due("nothing was written", 0, s.lines(0));
    }

    private static void noFifthParagraph() {
        SlideStage s = Stages.withBox(40, 40, 1);
        for (int p = 0; p < 4; p++) {
            s.write(0, 0, 1);
        }
        for (int level = 0; level < 3; level++) {
            int of = level;
            Check.state("a fifth", () -> s.write(0, of, 0x0F0F0F0F));
        }
        Check.due("four lines still", 4, s.lines(0));
        Check.due("no fifth", NONE, s.number(0, 4));
    }

    private static void scaleWithoutText() {
        for (int scale = 1; scale <= 4; scale++) {
            SlideStage s = Stages.withBox(0, 0, scale);
            Check.due("its own", scale, s.scale(0));
            s.unset(0, SCALE);
            Check.due("the theme's", 4, s.scale(0));
            s.theme(SCALE, scale);
            Check.due("the theme's", scale, s.scale(0));
        }
        SlideStage s = Stages.withOneSlide();
        s.shape(1, 0);
        s.shape(2, 0);
        s.set(0, SCALE, 3);
        Check.due("the layout's", 3, s.scale(1));
    }

    private static void scaleOfAnOverflow() {
        for (int most = 1; most <= 4; most++) {
            SlideStage s = Stages.withBox(40, 0, most);
            s.write(0, 0, 1);
            Check.due("no height", 0, s.scale(0));
            s.set(0, HEIGHT, 1);
            Check.due("just enough", 1, s.scale(0));
            s.write(0, 0, 1);
            Check.due("a paragraph too many", 0, s.scale(0));
        }
    }

    private static void scaleOfNoShape() {
        SlideStage none = Stages.withOneSlide();
        for (int shape : Check.beyond(0, -1)) {
            Check.out("scale(" + shape + ") without shapes", () -> none.scale(shape));
        }
        SlideStage s = Stages.withOneShape();
        for (int shape : Check.beyond(0, 0)) {
            Check.out("scale(" + shape + ")", () -> s.scale(shape));
        }
    }

    private static void fewestAndMostLines() {
        SlideStage s = Stages.withBox(0, 16, 4);
        Check.due("no text", 0, s.lines(0));
        for (int p = 0; p < 4; p++) {
            s.write(0, 2, 0x0F0F0F0F);
            Check.due("a line for each word", 4 * p + 4, s.lines(0));
        }
        Check.due("sixteen fit in 16", 1, s.scale(0));
        s.set(0, HEIGHT, 15);
        Check.due("and overflow in 15", 0, s.scale(0));
        Check.due("sixteen still", 16, s.lines(0));
        Check.due("the last one", 15, s.line(0, 15, 3));
    }

    private static void linesOfNoShape() {
        SlideStage none = Stages.withOneSlide();
        for (int shape : Check.beyond(0, -1)) {
            Check.out("lines(" + shape + ") without shapes", () -> none.lines(shape));
        }
        SlideStage s = Stages.withOneShape();
        for (int shape : Check.beyond(0, 0)) {
            Check.out("lines(" + shape + ")", () -> s.lines(shape));
        }
    }

    private static void whatALineHas() {
        SlideStage s = Stages.withBox(24, 40, 2);
        s.write(0, 0, 0x03040506);
        s.write(0, 1, 0x01000209);
        // Rooms are 24 and 20: 3+1+4 letters take 16, 5 more would take 28; 5+1+6 take just 24.
        expectLine(s, 0, 0, 0, 2, 16);
        expectLine(s, 1, 0, 2, 2, 24);
        expectLine(s, 2, 1, 0, 2, 8);
        expectLine(s, 3, 1, 2, 1, 18);
        Check.due("four lines", 4, s.lines(0));
    }

    private static void noSuchLine() {
        SlideStage none = Stages.withOneShape();
        for (int what = -1; what <= 4; what++) {
            Check.due("line(0, 0, " + what + ") without text", NONE, none.line(0, 0, what));
        }
        SlideStage s = Stages.withBox(40, 40, 1);
        s.write(0, 0, 1);
        s.write(0, 0, 1);
        for (int k : Check.beyond(0, 1)) {
            for (int what = -1; what <= 4; what++) {
                Check.due("line(0, " + k + ", " + what + ")", NONE, s.line(0, k, what));
            }
        }
        for (int what : Check.beyond(0, 3)) {
            for (int k = -1; k <= 2; k++) {
                Check.due("line(0, " + k + ", " + what + ")", NONE, s.line(0, k, what));
            }
        }
        Check.due("the last line", 1, s.line(0, 1, 3));
        SlideStage most = Stages.withBox(0, 0, 1);
        for (int p = 0; p < 4; p++) {
            most.write(0, 0, 0x01010101);
        }
        Check.due("no line 16 of an overflowing text", NONE, most.line(0, 16, 0));
        // A longer text that was asked for before must leave no lines behind.
        most.shape(2, NONE);
        most.write(1, 0, 1);
        Check.due("sixteen lines", 16, most.lines(0));
        Check.due("no line 1 of a short one", NONE, most.line(1, 1, 0));
    }

    private static void lineOfNoShape() {
        SlideStage none = Stages.withOneSlide();
        for (int shape : Check.beyond(0, -1)) {
            Check.out("line(" + shape + ", 0, 0) without shapes", () -> none.line(shape, 0, 0));
        }
        SlideStage s = Stages.withOneShape();
        s.write(0, 0, 1);
        for (int shape : Check.beyond(0, 0)) {
            Check.out("line(" + shape + ", 0, 0)", () -> s.line(shape, 0, 0));
            Check.out("line(" + shape + ", -1, -1)", () -> s.line(shape, -1, -1));
        }
    }

    private static void noSuchParagraph() {
        SlideStage s = Stages.withOneShape();
        for (int written = 0; written <= 4; written++) {
            for (int paragraph : Check.beyond(0, written - 1)) {
                Check.due("number(0, " + paragraph + ")", NONE, s.number(0, paragraph));
            }
            if (written < 4) {
                s.write(0, 0, 1);
            }
        }
        Check.due("the last one", 4, s.number(0, 3));
    }

    private static void numberOfNoShape() {
        SlideStage none = Stages.withOneSlide();
        for (int shape : Check.beyond(0, -1)) {
            Check.out("number(" + shape + ", 0) without shapes", () -> none.number(shape, 0));
        }
        SlideStage s = Stages.withOneShape();
        s.write(0, 0, 1);
        for (int shape : Check.beyond(0, 0)) {
            Check.out("number(" + shape + ", 0)", () -> s.number(shape, 0));
            Check.out("number(" + shape + ", -1)", () -> s.number(shape, -1));
        }
    }

    private static void expectLine(SlideStage s, int k, int paragraph, int first, int words, int wide) {
        Check.due("paragraph of line " + k, paragraph, s.line(0, k, 0));
        Check.due("first word of line " + k, first, s.line(0, k, 1));
        Check.due("words of line " + k, words, s.line(0, k, 2));
        Check.due("width of line " + k, wide, s.line(0, k, 3));
    }
}
