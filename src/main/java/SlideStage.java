import java.util.ArrayList;
import java.util.List;

/**
 * Shows slides: shapes that take what they are not told from a layout, a master and a theme, texts
 * that are broken into lines at the greatest scale that fits, effects that come with clicks and go
 * with time, a way forwards and back, and the picture that all of it makes at each moment.
 */
public final class SlideStage {
    public static final int NONE = -1;

    private static final int MOST_PAGES = 12;
    private static final int MOST_SHAPES = 24;
    private static final int MOST_EFFECTS = 24;
    private static final int MOST_PARAGRAPHS = 4;
    private static final int MOST_WORDS = 4;
    private static final int MOST_LINES = MOST_PARAGRAPHS * MOST_WORDS;

    private static final int MASTER = 0;
    private static final int SLIDE = 2;
    private static final int LAST_SLOT = 7;

    private static final int X = 0;
    private static final int Y = 1;
    private static final int WIDTH = 2;
    private static final int HEIGHT = 3;
    private static final int COLOR = 4;
    private static final int ALPHA = 5;
    private static final int SCALE = 6;
    private static final int PROPERTIES = 7;
    private static final int[] LEAST = {-40, -40, 0, 0, 0, 0, 1};
    private static final int[] GREATEST = {40, 40, 40, 40, 0xFFFFFF, 255, 4};

    private static final int LAST_LEVEL = 2;
    private static final int MOST_LETTERS = 15;

    private static final int ENTER = 0;
    private static final int LEAVE = 1;
    private static final int MOVE_X = 2;
    private static final int MOVE_Y = 3;
    private static final int CLICK = 0;
    private static final int WITH = 1;
    private static final int AFTER = 2;
    private static final int LONGEST = 50;
    private static final int FARTHEST = 40;

    private static final int TO_COME = 0;
    private static final int RUNS = 1;
    private static final int DONE = 2;

    private static final int MOST_TICKS = 1000;
    private static final int LAST_TIME = 1000000;

    private static final int PICTURE_WIDTH = 24;
    private static final int PICTURE_HEIGHT = 16;
    private static final int WHITE = 0xFFFFFF;

    private final int[] themeValues = {0, 0, 8, 4, 0x808080, 255, 4};
    private final List<Page> pages = new ArrayList<>();
    private final List<Page> slides = new ArrayList<>();
    private final List<Shape> shapes = new ArrayList<>();
    private final List<Effect> effects = new ArrayList<>();
    private final LineRows rows = new LineRows();
    private int slideAt = NONE;
    private int clicks = 0;
    private int time = 0;

    public SlideStage() {
    }

    public int page(int kind, int parent)
            throws IllegalArgumentException, IndexOutOfBoundsException, IllegalStateException {
        if (!isWithin(kind, MASTER, SLIDE)) {
            throw new IllegalArgumentException("no such kind of page");
        }
        Page above = findPage(parent);
        if (kind == MASTER ? parent != NONE : !isOfKind(above, kind - 1)) {
            throw new IndexOutOfBoundsException("no such parent for this kind");
        }
        if (pages.size() >= MOST_PAGES) {
            throw new IllegalStateException("no more pages");
        }
        Page made = new Page(kind, above);
        pages.add(made);
        if (kind == SLIDE) {
            addSlide(made);
        }
        return pages.size() - 1;
    }

    public int shape(int page, int slot)
            throws IndexOutOfBoundsException, IllegalArgumentException, IllegalStateException,
                    UnsupportedOperationException {
        Page home = findPage(page);
        if (home == null) {
            throw new IndexOutOfBoundsException("no such page");
        }
        if (!isWithin(slot, NONE, LAST_SLOT)) {
            throw new IllegalArgumentException("no such slot");
        }
        if (shapeInSlot(home, slot) != null) {
            throw new IllegalStateException("the slot is taken");
        }
        if (shapes.size() >= MOST_SHAPES) {
            throw new UnsupportedOperationException("no more shapes");
        }
        Shape made = new Shape(shapes.size(), home, slot);
        shapes.add(made);
        home.shapes.add(made);
        return made.index;
    }

    public void theme(int property, int value) throws IllegalArgumentException {
        checkValue(property, value);
        themeValues[property] = value;
    }

    public void set(int shape, int property, int value)
            throws IndexOutOfBoundsException, IllegalArgumentException {
        Shape found = findShape(shape);
        checkValue(property, value);
        found.owns[property] = true;
        found.values[property] = value;
    }

    public boolean unset(int shape, int property)
            throws IndexOutOfBoundsException, IllegalArgumentException {
        Shape found = findShape(shape);
        checkProperty(property);
        boolean owned = found.owns[property];
        found.owns[property] = false;
        return owned;
    }

    public int resolved(int shape, int property)
            throws IndexOutOfBoundsException, IllegalArgumentException {
        Shape found = findShape(shape);
        checkProperty(property);
        return resolve(found, property);
    }

    public int origin(int shape, int property)
            throws IndexOutOfBoundsException, IllegalArgumentException {
        Shape found = findShape(shape);
        checkProperty(property);
        return indexOf(source(found, property));
    }

    public int binding(int shape) throws IndexOutOfBoundsException {
        Shape found = findShape(shape);
        return indexOf(shapeInSlot(found.page.parent, found.slot));
    }

    public int write(int shape, int level, int words)
            throws IndexOutOfBoundsException, IllegalArgumentException, IllegalStateException {
        Shape found = findShape(shape);
        if (!isWithin(level, 0, LAST_LEVEL)) {
            throw new IllegalArgumentException("no such level");
        }
        if (!areWords(words)) {
            throw new IllegalArgumentException("no such words");
        }
        if (found.paragraphs.size() >= MOST_PARAGRAPHS) {
            throw new IllegalStateException("no more paragraphs");
        }
        found.paragraphs.add(new Paragraph(level, words));
        return found.paragraphs.size() - 1;
    }

    public int scale(int shape) throws IndexOutOfBoundsException {
        return fitText(findShape(shape));
    }

    public int lines(int shape) throws IndexOutOfBoundsException {
        fitText(findShape(shape));
        return rows.count;
    }

    public int line(int shape, int k, int what) throws IndexOutOfBoundsException {
        fitText(findShape(shape));
        if (k < 0 || k >= rows.count) {
            return NONE;
        }
        switch (what) {
            case 0:
                return rows.paragraph[k];
            case 1:
                return rows.firstWord[k];
            case 2:
                return rows.words[k];
            case 3:
                return rows.width[k];
            default:
                return NONE;
        }
    }

    public int number(int shape, int paragraph) throws IndexOutOfBoundsException {
        List<Paragraph> text = findShape(shape).paragraphs;
        if (paragraph < 0 || paragraph >= text.size()) {
            return NONE;
        }
        int level = text.get(paragraph).level;
        int counted = 0;
        for (int p = paragraph; p >= 0 && text.get(p).level >= level; p--) {
            if (text.get(p).level == level) {
                counted++;
            }
        }
        return counted;
    }

    public int effect(int shape, int kind, int trigger, int delay, int duration)
            throws IndexOutOfBoundsException, IllegalArgumentException, IllegalStateException,
                    UnsupportedOperationException {
        Shape found = findShape(shape);
        if (!isWithin(kind, ENTER, MOVE_Y) || !isWithin(trigger, CLICK, AFTER)) {
            throw new IllegalArgumentException("no such kind or trigger");
        }
        if (!isWithin(delay, 0, LONGEST) || !isWithin(duration, 0, LONGEST)) {
            throw new IllegalArgumentException("no such delay or duration");
        }
        if (found.page.kind != SLIDE) {
            throw new IllegalStateException("the shape is on no slide");
        }
        if (effects.size() >= MOST_EFFECTS) {
            throw new UnsupportedOperationException("no more effects");
        }
        Effect before = lastEffect(found.page);
        int build = buildBehind(before, trigger);
        int base = baseBehind(before, trigger);
        Effect made = new Effect(found.page, kind, build, base, delay, duration);
        effects.add(made);
        found.page.effects.add(made);
        found.effects.add(made);
        return effects.size() - 1;
    }

    public void amount(int effect, int amount)
            throws IndexOutOfBoundsException, IllegalArgumentException {
        Effect found = findEffect(effect);
        if (!isWithin(amount, -FARTHEST, FARTHEST)) {
            throw new IllegalArgumentException("no such amount");
        }
        found.amount = amount;
    }

    public int timing(int effect, int what) throws IndexOutOfBoundsException {
        Effect found = findEffect(effect);
        switch (what) {
            case 0:
                return found.start;
            case 1:
                return found.end;
            case 2:
                return found.build;
            case 3:
                return found.slide == slideShown() ? progress(found) : NONE;
            default:
                return NONE;
        }
    }

    public boolean click() {
        if (clicks < lastBuild(slideShown())) {
            show(slideAt, clicks + 1, 0);
            return true;
        }
        if (findSlide(slideAt + 1) == null) {
            return false;
        }
        show(slideAt + 1, 0, 0);
        return true;
    }

    public boolean back() {
        if (clicks > 0) {
            showEnd(slideAt, clicks - 1);
            return true;
        }
        Page before = findSlide(slideAt - 1);
        if (before == null) {
            return false;
        }
        showEnd(slideAt - 1, lastBuild(before));
        return true;
    }

    public void jump(int k) throws IndexOutOfBoundsException {
        if (findSlide(k) == null) {
            throw new IndexOutOfBoundsException("no such slide");
        }
        show(k, 0, 0);
    }

    public void tick(int n) throws IllegalArgumentException {
        if (!isWithin(n, 0, MOST_TICKS)) {
            throw new IllegalArgumentException("no such time to pass");
        }
        time = Math.min(time + n, LAST_TIME);
    }

    public int state(int what) {
        switch (what) {
            case 0:
                return slideAt;
            case 1:
                return clicks;
            case 2:
                return time;
            case 3:
                return lastBuild(slideShown());
            case 4:
                return lengthOfBuild(slideShown(), clicks);
            default:
                return NONE;
        }
    }

    public int now(int shape, int property)
            throws IndexOutOfBoundsException, IllegalArgumentException {
        Shape found = findShape(shape);
        checkProperty(property);
        return valueNow(found, property);
    }

    public int pixel(int x, int y) {
        if (!isWithin(x, 0, PICTURE_WIDTH - 1) || !isWithin(y, 0, PICTURE_HEIGHT - 1)) {
            return NONE;
        }
        int color = WHITE;
        for (int kind = MASTER; kind <= SLIDE; kind++) {
            color = paintPage(pageUnder(slideShown(), kind), x, y, color);
        }
        return color;
    }

    private static boolean isWithin(int value, int least, int greatest) {
        return value >= least && value <= greatest;
    }

    private static void checkProperty(int property) {
        if (!isWithin(property, 0, PROPERTIES - 1)) {
            throw new IllegalArgumentException("no such property");
        }
    }

    private static void checkValue(int property, int value) {
        checkProperty(property);
        if (!isWithin(value, LEAST[property], GREATEST[property])) {
            throw new IllegalArgumentException("no such value for the property");
        }
    }

    private Shape findShape(int shape) {
        if (shape < 0 || shape >= shapes.size()) {
            throw new IndexOutOfBoundsException("no such shape");
        }
        return shapes.get(shape);
    }

    private Effect findEffect(int effect) {
        if (effect < 0 || effect >= effects.size()) {
            throw new IndexOutOfBoundsException("no such effect");
        }
        return effects.get(effect);
    }

    private Page findPage(int page) {
        return page >= 0 && page < pages.size() ? pages.get(page) : null;
    }

    private static boolean isOfKind(Page page, int kind) {
        return page != null && page.kind == kind;
    }

    private void addSlide(Page slide) {
        slides.add(slide);
        if (slideAt == NONE) {
            // Clicks and time stay: what was ticked before the first slide counts.
            slideAt = 0;
        }
    }

    private static Shape shapeInSlot(Page page, int slot) {
        if (page == null || slot == NONE) {
            return null;
        }
        for (int i = 0; i < page.shapes.size(); i++) {
            if (page.shapes.get(i).slot == slot) {
                return page.shapes.get(i);
            }
        }
        return null;
    }

    private static int indexOf(Shape shape) {
        return shape == null ? NONE : shape.index;
    }

    /** The shape that a resolved property is from, null when it is from the theme. */
    private static Shape source(Shape shape, int property) {
        if (shape.owns[property]) {
            return shape;
        }
        for (Page above = shape.page.parent; above != null; above = above.parent) {
            Shape bound = shapeInSlot(above, shape.slot);
            if (bound != null && bound.owns[property]) {
                return bound;
            }
        }
        return null;
    }

    private int resolve(Shape shape, int property) {
        Shape from = source(shape, property);
        return from == null ? themeValues[property] : from.values[property];
    }

    private static int letters(int words, int word) {
        return words >>> (8 * (MOST_WORDS - 1 - word)) & 0xFF;
    }

    private static boolean areWords(int words) {
        for (int w = 0; w < MOST_WORDS; w++) {
            if (letters(words, w) > MOST_LETTERS) {
                return false;
            }
        }
        return words != 0;
    }

    /** Fills the rows with the lines of a shape's text; answers its scale, 0 when it overflows. */
    private int fitText(Shape shape) {
        int width = resolve(shape, WIDTH);
        int height = resolve(shape, HEIGHT);
        for (int scale = resolve(shape, SCALE); scale >= 1; scale--) {
            rows.fill(shape.paragraphs, width, scale);
            if (scale * rows.count <= height) {
                return scale;
            }
        }
        // The last rows filled were those at scale 1, which an overflowing text has.
        return 0;
    }

    private static Effect lastEffect(Page slide) {
        if (slide == null || slide.effects.isEmpty()) {
            return null;
        }
        return slide.effects.get(slide.effects.size() - 1);
    }

    private static int lastBuild(Page slide) {
        Effect last = lastEffect(slide);
        return last == null ? 0 : last.build;
    }

    private static int buildBehind(Effect before, int trigger) {
        int build = before == null ? 0 : before.build;
        return trigger == CLICK ? build + 1 : build;
    }

    private static int baseBehind(Effect before, int trigger) {
        if (before == null || trigger == CLICK) {
            return 0;
        }
        return trigger == WITH ? before.base : before.end;
    }

    private static int lengthOfBuild(Page slide, int build) {
        if (slide == null) {
            return 0;
        }
        int length = 0;
        for (int i = 0; i < slide.effects.size(); i++) {
            Effect effect = slide.effects.get(i);
            if (effect.build == build) {
                length = Math.max(length, effect.end);
            }
        }
        return length;
    }

    private Page findSlide(int k) {
        return k >= 0 && k < slides.size() ? slides.get(k) : null;
    }

    /** The slide that the show is at, null when there is none. */
    private Page slideShown() {
        return findSlide(slideAt);
    }

    private void show(int slide, int clicksThen, int timeThen) {
        slideAt = slide;
        clicks = clicksThen;
        time = timeThen;
    }

    private void showEnd(int slide, int build) {
        show(slide, build, lengthOfBuild(findSlide(slide), build));
    }

    /** How far an effect of the slide that is shown has come. */
    private int progress(Effect effect) {
        if (effect.build < clicks || effect.build == clicks && effect.end <= time) {
            return DONE;
        }
        return effect.build == clicks && effect.start <= time ? RUNS : TO_COME;
    }

    /** The part of a whole that an effect of the slide that is shown has brought. */
    private int part(Effect effect, int whole) {
        int progress = progress(effect);
        if (progress == RUNS && effect.duration > 0) {
            return whole * (time - effect.start) / effect.duration;
        }
        return progress == DONE ? whole : 0;
    }

    private int valueNow(Shape shape, int property) {
        int value = resolve(shape, property);
        if (shape.page != slideShown()) {
            return value;
        }
        switch (property) {
            case X:
                return value + moved(shape, MOVE_X);
            case Y:
                return value + moved(shape, MOVE_Y);
            case ALPHA:
                return alphaNow(shape, value);
            default:
                return value;
        }
    }

    private int moved(Shape shape, int kind) {
        int way = 0;
        for (int i = 0; i < shape.effects.size(); i++) {
            Effect effect = shape.effects.get(i);
            if (effect.kind == kind) {
                way += part(effect, effect.amount);
            }
        }
        return way;
    }

    private int alphaNow(Shape shape, int full) {
        int alpha = entersFirst(shape) ? 0 : full;
        for (int i = 0; i < shape.effects.size(); i++) {
            Effect effect = shape.effects.get(i);
            if (progress(effect) == TO_COME) {
                continue;
            }
            if (effect.kind == ENTER) {
                alpha = part(effect, full);
            } else if (effect.kind == LEAVE) {
                alpha = full - part(effect, full);
            }
        }
        return alpha;
    }

    private static boolean entersFirst(Shape shape) {
        for (int i = 0; i < shape.effects.size(); i++) {
            int kind = shape.effects.get(i).kind;
            if (kind == ENTER || kind == LEAVE) {
                return kind == ENTER;
            }
        }
        return false;
    }

    /** The page of a kind that a slide stands on (itself, for a slide), null when there is none. */
    private static Page pageUnder(Page slide, int kind) {
        Page page = slide;
        while (page != null && page.kind > kind) {
            page = page.parent;
        }
        return page;
    }

    private int paintPage(Page page, int x, int y, int under) {
        if (page == null) {
            return under;
        }
        int color = under;
        for (int i = 0; i < page.shapes.size(); i++) {
            Shape shape = page.shapes.get(i);
            // A shape with a slot on a layout or a master is only a pattern for those below it.
            boolean seen = page.kind == SLIDE || shape.slot == NONE;
            if (seen && covers(valueNow(shape, X), resolve(shape, WIDTH), x)
                    && covers(valueNow(shape, Y), resolve(shape, HEIGHT), y)) {
                color = blend(resolve(shape, COLOR), color, valueNow(shape, ALPHA));
            }
        }
        return color;
    }

    private static boolean covers(int from, int extent, int point) {
        return point >= from && point < from + extent;
    }

    private static int blend(int over, int under, int alpha) {
        int color = 0;
        for (int shift = 16; shift >= 0; shift -= 8) {
            int c = over >> shift & 0xFF;
            int d = under >> shift & 0xFF;
            color |= (c * alpha + d * (255 - alpha) + 127) / 255 << shift;
        }
        return color;
    }

    private static final class Page {
        final int kind;
        final Page parent;
        final List<Shape> shapes = new ArrayList<>();
        final List<Effect> effects = new ArrayList<>();

        Page(int kind, Page parent) {
            this.kind = kind;
            this.parent = parent;
        }
    }

    private static final class Shape {
        final int index;
        final Page page;
        final int slot;
        final boolean[] owns = new boolean[PROPERTIES];
        final int[] values = new int[PROPERTIES];
        final List<Paragraph> paragraphs = new ArrayList<>();
        final List<Effect> effects = new ArrayList<>();

        Shape(int index, Page page, int slot) {
            this.index = index;
            this.page = page;
            this.slot = slot;
        }
    }

    private static final class Paragraph {
        final int level;
        final int words;

        Paragraph(int level, int words) {
            this.level = level;
            this.words = words;
        }
    }

    private static final class Effect {
        final Page slide;
        final int kind;
        final int build;
        final int base;
        final int start;
        final int end;
        final int duration;
        int amount = 0;

        Effect(Page slide, int kind, int build, int base, int delay, int duration) {
            this.slide = slide;
            this.kind = kind;
            this.build = build;
            this.base = base;
            this.start = base + delay;
            this.end = base + delay + duration;
            this.duration = duration;
        }
    }

    /** The lines of one text at one scale; made once and filled anew for each question. */
    private static final class LineRows {
        final int[] paragraph = new int[MOST_LINES];
        final int[] firstWord = new int[MOST_LINES];
        final int[] words = new int[MOST_LINES];
        final int[] width = new int[MOST_LINES];
        int count = 0;

        void fill(List<Paragraph> text, int textWidth, int scale) {
            count = 0;
            for (int p = 0; p < text.size(); p++) {
                int room = textWidth - 2 * scale * text.get(p).level;
                addParagraph(p, text.get(p).words, room, scale);
            }
        }

        private void addParagraph(int index, int letterCounts, int room, int scale) {
            int word = 0;
            for (int w = 0; w < MOST_WORDS; w++) {
                int wide = scale * letters(letterCounts, w);
                if (wide == 0) {
                    continue;
                }
                if (word == 0 || !extendLine(scale + wide, room)) {
                    beginLine(index, word, wide);
                }
                word++;
            }
        }

        private boolean extendLine(int wider, int room) {
            if (count < 1 || count > MOST_LINES || width[count - 1] + wider > room) {
                return false;
            }
            words[count - 1]++;
            width[count - 1] += wider;
            return true;
        }

        private void beginLine(int index, int word, int wide) {
            if (count >= MOST_LINES) {
                return;
            }
            paragraph[count] = index;
            firstWord[count] = word;
            words[count] = 1;
            width[count] = wide;
            count++;
        }
    }
}
