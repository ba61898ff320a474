import java.util.ArrayList;
import java.util.Arrays;
import java.util.List;
import java.util.Map;
import java.util.TreeMap;

/**
 * The document once more, written as it stands and with no thought of speed or room: facts are kept
 * as they were told, and every answer is worked out from them anew.
 */
final class PlainModel {
    private static final int[] LOW = {-40, -40, 0, 0, 0, 0, 1};
    private static final int[] HIGH = {40, 40, 40, 40, 0xFFFFFF, 255, 4};

    private record Page(int kind, int parent) {
    }

    private record Shape(int page, int slot, Map<Integer, Integer> own, List<Paragraph> text) {
    }

    private record Paragraph(int level, List<Integer> words) {
    }

    private record Effect(int shape, int kind, int trigger, int delay, int duration, int[] amount) {
    }

    private record Line(int paragraph, int first, int words, int width) {
    }

    private final List<Page> pages = new ArrayList<>();
    private final List<Shape> shapes = new ArrayList<>();
    private final List<Effect> effects = new ArrayList<>();
    private final int[] theme = {0, 0, 8, 4, 0x808080, 255, 4};
    private int at = 0;
    private int clicks = 0;
    private int time = 0;

    int page(int kind, int parent) {
        require(kind == 0 || kind == 1 || kind == 2, new IllegalArgumentException());
        boolean isPage = parent >= 0 && parent < pages.size();
        boolean fits = kind == 0 ? parent == -1 : isPage && pages.get(parent).kind == kind - 1;
        require(fits, new IndexOutOfBoundsException());
        require(pages.size() < 12, new IllegalStateException());
        pages.add(new Page(kind, parent));
        return pages.size() - 1;
    }

    int shape(int page, int slot) {
        require(page >= 0 && page < pages.size(), new IndexOutOfBoundsException());
        require(slot >= -1 && slot <= 7, new IllegalArgumentException());
        require(slot == -1 || slotOn(page, slot) == -1, new IllegalStateException());
        require(shapes.size() < 24, new UnsupportedOperationException());
        shapes.add(new Shape(page, slot, new TreeMap<>(), new ArrayList<>()));
        return shapes.size() - 1;
    }

    void theme(int property, int value) {
        requireValue(property, value);
        theme[property] = value;
    }

    void set(int shape, int property, int value) {
        requireShape(shape);
        requireValue(property, value);
        shapes.get(shape).own.put(property, value);
    }

    boolean unset(int shape, int property) {
        requireShape(shape);
        requireProperty(property);
        return shapes.get(shape).own.remove(property) != null;
    }

    int resolved(int shape, int property) {
        int from = origin(shape, property);
        return from == -1 ? theme[property] : shapes.get(from).own.get(property);
    }

    int origin(int shape, int property) {
        requireShape(shape);
        requireProperty(property);
        if (shapes.get(shape).own.containsKey(property)) {
            return shape;
        }
        if (shapes.get(shape).slot == -1) {
            return -1;
        }
        int parent = pages.get(shapes.get(shape).page).parent;
        if (parent == -1) {
            return -1;
        }
        int near = slotOn(parent, shapes.get(shape).slot);
        if (near != -1 && shapes.get(near).own.containsKey(property)) {
            return near;
        }
        int grandparent = pages.get(parent).parent;
        int far = grandparent == -1 ? -1 : slotOn(grandparent, shapes.get(shape).slot);
        return far != -1 && shapes.get(far).own.containsKey(property) ? far : -1;
    }

    int binding(int shape) {
        requireShape(shape);
        int parent = pages.get(shapes.get(shape).page).parent;
        int slot = shapes.get(shape).slot;
        return parent == -1 || slot == -1 ? -1 : slotOn(parent, slot);
    }

    int write(int shape, int level, int words) {
        requireShape(shape);
        List<Integer> letters = new ArrayList<>();
        boolean tooLong = false;
        for (int b : new int[] {words >>> 24, words >>> 16 & 255, words >>> 8 & 255, words & 255}) {
            tooLong |= b > 15;
            if (b != 0) {
                letters.add(b);
            }
        }
        boolean fine = level >= 0 && level <= 2 && !tooLong && !letters.isEmpty();
        require(fine, new IllegalArgumentException());
        require(shapes.get(shape).text.size() < 4, new IllegalStateException());
        shapes.get(shape).text.add(new Paragraph(level, letters));
        return shapes.get(shape).text.size() - 1;
    }

    int scale(int shape) {
        requireShape(shape);
        if (shapes.get(shape).text.isEmpty()) {
            return resolved(shape, 6);
        }
        int best = 0;
        for (int s = 1; s <= resolved(shape, 6); s++) {
            if (s * linesAt(shape, s).size() <= resolved(shape, 3)) {
                best = s;
            }
        }
        return best;
    }

    int lines(int shape) {
        requireShape(shape);
        return linesAt(shape, Math.max(1, scale(shape))).size();
    }

    int line(int shape, int k, int what) {
        requireShape(shape);
        List<Line> all = linesAt(shape, Math.max(1, scale(shape)));
        if (k < 0 || k >= all.size() || what < 0 || what > 3) {
            return -1;
        }
        Line line = all.get(k);
        return new int[] {line.paragraph, line.first, line.words, line.width}[what];
    }

    int number(int shape, int paragraph) {
        requireShape(shape);
        List<Paragraph> text = shapes.get(shape).text;
        if (paragraph < 0 || paragraph >= text.size()) {
            return -1;
        }
        int level = text.get(paragraph).level;
        int from = 0;
        for (int p = 0; p < paragraph; p++) {
            if (text.get(p).level < level) {
                from = p + 1;
            }
        }
        return (int) text.subList(from, paragraph + 1).stream().filter(p -> p.level == level).count();
    }

    int effect(int shape, int kind, int trigger, int delay, int duration) {
        requireShape(shape);
        boolean fine = kind >= 0 && kind <= 3 && trigger >= 0 && trigger <= 2
                && delay >= 0 && delay <= 50 && duration >= 0 && duration <= 50;
        require(fine, new IllegalArgumentException());
        require(pages.get(shapes.get(shape).page).kind == 2, new IllegalStateException());
        require(effects.size() < 24, new UnsupportedOperationException());
        effects.add(new Effect(shape, kind, trigger, delay, duration, new int[1]));
        return effects.size() - 1;
    }

    void amount(int effect, int amount) {
        requireEffect(effect);
        require(amount >= -40 && amount <= 40, new IllegalArgumentException());
        effects.get(effect).amount[0] = amount;
    }

    int timing(int effect, int what) {
        requireEffect(effect);
        return switch (what) {
            case 0 -> start(effect);
            case 1 -> end(effect);
            case 2 -> build(effect);
            case 3 -> slideOf(effect) != pageShown() ? -1 : isDone(effect) ? 2 : isRunning(effect) ? 1 : 0;
            default -> -1;
        };
    }

    boolean click() {
        if (pageShown() != -1 && clicks + 1 <= lastBuild(pageShown())) {
            clicks++;
            time = 0;
            return true;
        }
        if (pageShown() == -1 || at + 1 >= slides().size()) {
            return false;
        }
        jump(at + 1);
        return true;
    }

    boolean back() {
        if (clicks > 0) {
            clicks--;
        } else if (at > 0) {
            at--;
            clicks = lastBuild(pageShown());
        } else {
            return false;
        }
        time = length(pageShown(), clicks);
        return true;
    }

    void jump(int k) {
        require(k >= 0 && k < slides().size(), new IndexOutOfBoundsException());
        at = k;
        clicks = 0;
        time = 0;
    }

    void tick(int n) {
        require(n >= 0 && n <= 1000, new IllegalArgumentException());
        time = Math.min(1000000, time + n);
    }

    int state(int what) {
        boolean none = pageShown() == -1;
        return switch (what) {
            case 0 -> none ? -1 : at;
            case 1 -> clicks;
            case 2 -> time;
            case 3 -> none ? 0 : lastBuild(pageShown());
            case 4 -> none ? 0 : length(pageShown(), clicks);
            default -> -1;
        };
    }

    int now(int shape, int property) {
        int value = resolved(shape, property);
        if (shapes.get(shape).page != pageShown()) {
            return value;
        }
        if (property == 5) {
            return alphaNow(shape, value);
        }
        for (int e = 0; property <= 1 && e < effects.size(); e++) {
            Effect effect = effects.get(e);
            if (effect.shape == shape && effect.kind == 2 + property) {
                if (isDone(e)) {
                    value += effect.amount[0];
                } else if (isRunning(e)) {
                    value += effect.amount[0] * (time - start(e)) / effect.duration;
                }
            }
        }
        return value;
    }

    int pixel(int x, int y) {
        if (x < 0 || x > 23 || y < 0 || y > 15) {
            return -1;
        }
        int[] parts = {255, 255, 255};
        if (pageShown() != -1) {
            int layout = pages.get(pageShown()).parent;
            for (int page : new int[] {pages.get(layout).parent, layout, pageShown()}) {
                paint(page, x, y, parts);
            }
        }
        return parts[0] * 65536 + parts[1] * 256 + parts[2];
    }

    private void paint(int page, int x, int y, int[] parts) {
        for (int i = 0; i < shapes.size(); i++) {
            boolean shown = page == pageShown() || shapes.get(i).slot == -1;
            int right = x - now(i, 0);
            int down = y - now(i, 1);
            boolean inside = right >= 0 && right < now(i, 2) && down >= 0 && down < now(i, 3);
            if (shapes.get(i).page == page && shown && inside) {
                int[] color = {now(i, 4) / 65536, now(i, 4) / 256 % 256, now(i, 4) % 256};
                int alpha = now(i, 5);
                Arrays.setAll(parts, p -> (color[p] * alpha + parts[p] * (255 - alpha) + 127) / 255);
            }
        }
    }

    private int alphaNow(int shape, int full) {
        int value = -1;
        for (int e = 0; e < effects.size(); e++) {
            Effect effect = effects.get(e);
            if (effect.shape != shape || effect.kind > 1) {
                continue;
            }
            if (value == -1) {
                value = effect.kind == 0 ? 0 : full;
            }
            if (isDone(e)) {
                value = effect.kind == 0 ? full : 0;
            } else if (isRunning(e)) {
                int come = full * (time - start(e)) / effect.duration;
                value = effect.kind == 0 ? come : full - come;
            }
        }
        return value == -1 ? full : value;
    }

    private List<Line> linesAt(int shape, int s) {
        List<Line> all = new ArrayList<>();
        List<Paragraph> text = shapes.get(shape).text;
        for (int p = 0; p < text.size(); p++) {
            int room = resolved(shape, 2) - 2 * s * text.get(p).level;
            List<Integer> words = text.get(p).words;
            int first = 0;
            while (first < words.size()) {
                int behind = first + 1;
                while (behind < words.size() && width(words.subList(first, behind + 1), s) <= room) {
                    behind++;
                }
                all.add(new Line(p, first, behind - first, width(words.subList(first, behind), s)));
                first = behind;
            }
        }
        return all;
    }

    private static int width(List<Integer> words, int s) {
        return s * (words.stream().mapToInt(Integer::intValue).sum() + words.size() - 1);
    }

    private int slotOn(int page, int slot) {
        for (int i = 0; i < shapes.size(); i++) {
            if (shapes.get(i).page == page && shapes.get(i).slot == slot) {
                return i;
            }
        }
        return -1;
    }

    private List<Integer> slides() {
        List<Integer> found = new ArrayList<>();
        for (int p = 0; p < pages.size(); p++) {
            if (pages.get(p).kind == 2) {
                found.add(p);
            }
        }
        return found;
    }

    private int pageShown() {
        return slides().isEmpty() ? -1 : slides().get(at);
    }

    private int slideOf(int effect) {
        return shapes.get(effects.get(effect).shape).page;
    }

    private int before(int effect) {
        int e = effect - 1;
        while (e >= 0 && slideOf(e) != slideOf(effect)) {
            e--;
        }
        return e;
    }

    private int build(int effect) {
        int clicked = 0;
        for (int e = 0; e <= effect; e++) {
            if (slideOf(e) == slideOf(effect) && effects.get(e).trigger == 0) {
                clicked++;
            }
        }
        return clicked;
    }

    private int base(int effect) {
        int before = before(effect);
        if (before == -1 || build(before) != build(effect)) {
            return 0;
        }
        return effects.get(effect).trigger == 1 ? base(before) : end(before);
    }

    private int start(int effect) {
        return base(effect) + effects.get(effect).delay;
    }

    private int end(int effect) {
        return start(effect) + effects.get(effect).duration;
    }

    private int lastBuild(int slide) {
        int last = 0;
        for (int e = 0; e < effects.size(); e++) {
            last = slideOf(e) == slide ? Math.max(last, build(e)) : last;
        }
        return last;
    }

    private int length(int slide, int build) {
        int length = 0;
        for (int e = 0; e < effects.size(); e++) {
            length = slideOf(e) == slide && build(e) == build ? Math.max(length, end(e)) : length;
        }
        return length;
    }

    private boolean isDone(int effect) {
        return build(effect) < clicks || build(effect) == clicks && end(effect) <= time;
    }

    private boolean isRunning(int effect) {
        return !isDone(effect) && build(effect) == clicks && start(effect) <= time;
    }

    private void requireShape(int shape) {
        require(shape >= 0 && shape < shapes.size(), new IndexOutOfBoundsException());
    }

    private void requireEffect(int effect) {
        require(effect >= 0 && effect < effects.size(), new IndexOutOfBoundsException());
    }

    private static void requireProperty(int property) {
        require(property >= 0 && property <= 6, new IllegalArgumentException());
    }

    private static void requireValue(int property, int value) {
        requireProperty(property);
        require(value >= LOW[property] && value <= HIGH[property], new IllegalArgumentException());
    }

    private static void require(boolean holds, RuntimeException otherwise) {
        if (!holds) {
            throw otherwise;
        }
    }
}
