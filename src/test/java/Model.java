import java.util.ArrayList;
import java.util.Comparator;
import java.util.List;
import java.util.TreeMap;
import java.util.function.Predicate;

/** The document told once more, as plainly as can be: what FontShelf answers is held against it. */
final class Model {
    static final class MGlyph {
        int[] numbers;
        List<Integer> came = new ArrayList<>();

        int need() {
            return numbers[3] * ((numbers[2] + 7) / 8);
        }

        boolean black(int j, int dot) {
            if (j < 0 || j >= numbers[3] || dot < 0 || dot >= numbers[2]) {
                return false;
            }
            int at = j * ((numbers[2] + 7) / 8) + dot / 8;
            return at < came.size() && (came.get(at) >> (7 - dot % 8) & 1) == 1;
        }
    }

    static final class MFont {
        int id;
        int[] attributes;
        boolean permanent;
        TreeMap<Integer, MGlyph> glyphs = new TreeMap<>();
    }

    static final int[] LEAST = {0, 0, 1, 1, 0, -7, 0};
    static final int[] MOST = {2047, 1, 57600, 99999, 32767, 7, 65535};

    final List<MFont> fonts = new ArrayList<>();
    final int[][] told = new int[3][];
    final Integer[] pins = new Integer[2];
    int id;
    int code;
    MGlyph loading;

    Model() {
        for (int i = 0; i < 3; i++) {
            told[i] = new int[] {277, 0, 1000, 1200, 0, 0, 3};
        }
    }

    private MFont byId(Integer wanted) {
        return fonts.stream().filter(f -> wanted != null && f.id == wanted).findFirst().orElse(null);
    }

    boolean hand(boolean isCode, int n) {
        if (n < 0 || n > (isCode ? 255 : 32767)) {
            return false;
        }
        id = isCode ? id : n;
        code = isCode ? n : code;
        loading = null;
        return true;
    }

    boolean attribute(boolean wish, int which, int w, int value) {
        if (w < 0 || w > 6 || value < LEAST[w] || value > MOST[w] || wish && which != 0 && which != 1) {
            return false;
        }
        told[wish ? which : 2][w] = value;
        if (wish) {
            pins[which] = null;
        }
        return true;
    }

    int header() {
        if (fonts.stream().filter(f -> f.id != id).count() == 32) {
            throw new IllegalStateException();
        }
        fonts.removeIf(f -> f.id == id);
        MFont font = new MFont();
        font.id = id;
        font.attributes = told[2].clone();
        fonts.add(font);
        loading = null;
        return fonts.size();
    }

    int glyph(int... numbers) {
        int[] least = {-16384, -16384, 0, 0, 0};
        int[] most = {16383, 16383, 128, 128, 32767};
        if (byId(id) == null) {
            throw new IllegalStateException();
        }
        for (int i = 0; i < 5; i++) {
            if (numbers[i] < least[i] || numbers[i] > most[i]) {
                throw new IllegalArgumentException();
            }
        }
        loading = new MGlyph();
        loading.numbers = numbers;
        return loading.need();
    }

    boolean bytes(long part, int n) {
        if (n < 1 || n > 8 || loading == null) {
            return false;
        }
        for (int i = n - 1; i >= 0; i--) {
            if (loading.came.size() < loading.need()) {
                loading.came.add((int) (part >> 8 * i & 255));
            }
        }
        return true;
    }

    int load() {
        if (loading == null) {
            throw new IllegalStateException();
        }
        MFont font = byId(id);
        MGlyph old = font.glyphs.put(code, loading);
        loading = null;
        if (look(1) > 256 || look(2) > 16384) {
            if (old == null) {
                font.glyphs.remove(code);
            } else {
                font.glyphs.put(code, old);
            }
            throw new UnsupportedOperationException();
        }
        return font.glyphs.size();
    }

    boolean permanent(boolean on) {
        MFont font = byId(id);
        boolean changes = font != null && font.permanent != on;
        if (changes) {
            font.permanent = on;
        }
        return changes;
    }

    int drop(int what) {
        if (what < 0 || what > 3) {
            throw new IllegalArgumentException();
        }
        loading = null;
        if (what == 3) {
            return byId(id) != null && byId(id).glyphs.remove(code) != null ? 1 : 0;
        }
        int before = fonts.size();
        fonts.removeIf(f -> what == 0 || what == 1 && !f.permanent || what == 2 && f.id == id);
        return before - fonts.size();
    }

    boolean pin(int which, int wanted) {
        if (which != 0 && which != 1 || byId(wanted) == null) {
            return false;
        }
        pins[which] = wanted;
        told[which] = byId(wanted).attributes.clone();
        return true;
    }

    private static List<MFont> some(List<MFont> from, Predicate<MFont> fits) {
        return from.stream().filter(fits).toList();
    }

    private static List<MFont> orAll(List<MFont> some, List<MFont> all) {
        return some.isEmpty() ? all : some;
    }

    private static List<MFont> atEnd(List<MFont> from, int w, boolean greatest) {
        Comparator<MFont> by = Comparator.comparingInt(f -> f.attributes[w]);
        if (from.isEmpty()) {
            return from;
        }
        int end = from.stream().max(greatest ? by : by.reversed()).get().attributes[w];
        return some(from, f -> f.attributes[w] == end);
    }

    MFont chosenFont(int which) {
        if (which != 0 && which != 1 || fonts.isEmpty()) {
            return null;
        }
        if (byId(pins[which]) != null) {
            return byId(pins[which]);
        }
        int[] wish = told[which];
        List<MFont> all = fonts;
        List<MFont> left = some(all, f -> f.attributes[0] == wish[0]);
        left = orAll(orAll(left, some(all, f -> f.attributes[0] == 277)), all);
        left = orAll(some(left, f -> f.attributes[1] == wish[1]), left);
        if (wish[1] == 0 && left.stream().allMatch(f -> f.attributes[1] == 0)) {
            List<MFont> enough = some(left, f -> f.attributes[2] >= wish[2]);
            left = enough.isEmpty() ? atEnd(left, 2, true) : atEnd(enough, 2, false);
        }
        int near = left.stream().mapToInt(f -> Math.abs(f.attributes[3] - wish[3])).min().getAsInt();
        left = atEnd(some(left, f -> Math.abs(f.attributes[3] - wish[3]) == near), 3, true);
        left = orAll(some(left, f -> f.attributes[4] == wish[4]), left);
        left = byWeight(left, wish[5]);
        left = orAll(some(left, f -> f.attributes[6] == wish[6]), left);
        left = orAll(some(left, f -> !f.permanent), left);
        return left.get(left.size() - 1);
    }

    private static List<MFont> byWeight(List<MFont> left, int weight) {
        List<MFont> same = some(left, f -> f.attributes[5] == weight);
        if (!same.isEmpty()) {
            return same;
        }
        boolean up = weight >= 0;
        List<MFont> beyond = some(left, f -> up ? f.attributes[5] > weight : f.attributes[5] < weight);
        return beyond.isEmpty() ? atEnd(left, 5, up) : atEnd(beyond, 5, !up);
    }

    int chosen(int which) {
        MFont font = chosenFont(which);
        return font == null ? -1 : font.id;
    }

    int font(int i, int w) {
        if (i < 0 || i >= fonts.size() || w < 0 || w > 9) {
            throw new IndexOutOfBoundsException();
        }
        MFont font = fonts.get(i);
        return w < 7 ? font.attributes[w] : w == 7 ? font.id : w == 9 ? font.glyphs.size() : font.permanent ? 1 : 0;
    }

    int of(int which, int ofCode, int w) {
        if (which != 0 && which != 1 || w < 0 || w > 5) {
            throw new IllegalArgumentException();
        }
        MFont font = chosenFont(which);
        MGlyph glyph = font == null ? null : font.glyphs.get(ofCode);
        if (glyph == null) {
            throw new IllegalStateException();
        }
        if (w < 5) {
            return glyph.numbers[w];
        }
        int black = 0;
        for (int j = 0; j < 128; j++) {
            for (int dot = 0; dot < 128; dot++) {
                black += glyph.black(j, dot) ? 1 : 0;
            }
        }
        return black;
    }

    long row(int which, int ofCode, int j, int k) {
        MFont font = chosenFont(which);
        MGlyph glyph = font == null ? null : font.glyphs.get(ofCode);
        long dots = 0;
        for (int i = 0; glyph != null && k >= 0 && k < 2 && i < 64; i++) {
            dots |= glyph.black(j, 64 * k + i) ? 1L << (63 - i) : 0;
        }
        return dots;
    }

    int wish(int which, int w) {
        if (which < 0 || which > 2 || w < 0 || w > 7) {
            throw new IndexOutOfBoundsException();
        }
        return w < 7 ? told[which][w] : which == 2 ? id : pins[which] == null ? -1 : pins[which];
    }

    int look(int which) {
        switch (which) {
            case 0: return fonts.size();
            case 1: return fonts.stream().mapToInt(f -> f.glyphs.size()).sum();
            case 2: return fonts.stream().flatMap(f -> f.glyphs.values().stream()).mapToInt(MGlyph::need).sum();
            case 3: return id;
            case 4: return code;
            case 5: return loading == null ? -1 : loading.need() - loading.came.size();
            default: return -1;
        }
    }
}
