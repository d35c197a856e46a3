import java.util.ArrayList;

/** The font shelf of a page printer: DOC.md tells, as numbered promises, what each call does. */
public final class FontShelf {
    public static final int NONE = -1;

    private static final int SET = 0;
    private static final int SPACING = 1;
    private static final int PITCH = 2;
    private static final int HEIGHT = 3;
    private static final int STYLE = 4;
    private static final int WEIGHT = 5;
    private static final int FACE = 6;
    private static final int ATTRIBUTES = 7;

    private static final int[] LEAST_VALUE = {0, 0, 1, 1, 0, -7, 0};
    private static final int[] GREATEST_VALUE = {2047, 1, 57600, 99999, 32767, 7, 65535};
    private static final int[] FIRST_DRAFT = {277, 0, 1000, 1200, 0, 0, 3};

    private static final int COMMON_SET = 277;
    private static final int EVEN = 0;

    private static final int GREATEST_ID = 32767;
    private static final int CODES = 256;
    private static final int MOST_FONTS = 32;
    private static final int MOST_GLYPHS = 256;
    private static final int MOST_BYTES = 16384;

    private static final int LEAST_OFFSET = -16384;
    private static final int GREATEST_OFFSET = 16383;
    private static final int GREATEST_SIDE = 128;
    private static final int GREATEST_STEP = 32767;

    private static final int BYTES_AT_ONCE = 8;
    private static final int FONTS_AT_HAND = 2;

    // No attribute ever has one of these two values, so they can say that there was none.
    private static final int ABOVE_ALL = 1000000;
    private static final int BELOW_ALL = -1000000;

    private final ArrayList<Font> shelf = new ArrayList<>();
    private final int[] draft = FIRST_DRAFT.clone();
    private final Choice[] choices = {new Choice(), new Choice()};
    private int idAtHand = 0;
    private int codeAtHand = 0;
    // Not null only while the shelf has a font of the ID at hand: hand, header and drop forget it.
    private Glyph loading = null;

    public FontShelf() {
    }

    public boolean hand(boolean code, int n) {
        if (!within(n, 0, code ? CODES - 1 : GREATEST_ID)) {
            return false;
        }
        if (code) {
            codeAtHand = n;
        } else {
            idAtHand = n;
        }
        loading = null;
        return true;
    }

    public boolean attribute(boolean wish, int which, int w, int value) {
        if (!isAttribute(w) || !within(value, LEAST_VALUE[w], GREATEST_VALUE[w])) {
            return false;
        }
        if (!wish) {
            draft[w] = value;
            return true;
        }
        if (!isAtHand(which)) {
            return false;
        }
        choices[which].wish[w] = value;
        choices[which].pin = NONE;
        return true;
    }

    public int header() throws IllegalStateException {
        int old = placeOf(idAtHand);
        if (old == NONE && shelf.size() >= MOST_FONTS) {
            throw new IllegalStateException("the shelf is full");
        }
        takeOut(old);
        shelf.add(new Font(idAtHand, draft.clone()));
        loading = null;
        return shelf.size();
    }

    public int glyph(int left, int top, int width, int depth, int step)
            throws IllegalStateException, IllegalArgumentException {
        if (placeOf(idAtHand) == NONE) {
            throw new IllegalStateException("no font has the ID at hand");
        }
        if (!within(left, LEAST_OFFSET, GREATEST_OFFSET) || !within(top, LEAST_OFFSET, GREATEST_OFFSET)
                || !within(width, 0, GREATEST_SIDE) || !within(depth, 0, GREATEST_SIDE)
                || !within(step, 0, GREATEST_STEP)) {
            throw new IllegalArgumentException("no glyph has such a number");
        }
        loading = new Glyph(left, top, width, depth, step);
        return loading.size();
    }

    public boolean bytes(long part, int n) {
        if (loading == null || !within(n, 1, BYTES_AT_ONCE)) {
            return false;
        }
        for (int i = n - 1; i >= 0; i--) {
            loading.addByte((int) (part >>> (8 * i)) & 0xFF);
        }
        return true;
    }

    public int load() throws IllegalStateException, UnsupportedOperationException {
        Font font = fontWith(idAtHand);
        if (loading == null || font == null) {
            throw new IllegalStateException("no glyph is being loaded");
        }
        Glyph fresh = loading;
        loading = null;
        if (!hasRoomFor(fresh, font.glyphFor(codeAtHand))) {
            throw new UnsupportedOperationException("no room for the glyph");
        }
        font.remove(codeAtHand);
        font.put(codeAtHand, fresh);
        return font.glyphCount;
    }

    public boolean permanent(boolean on) {
        Font font = fontWith(idAtHand);
        if (font == null || font.isPermanent == on) {
            return false;
        }
        font.isPermanent = on;
        return true;
    }

    public int drop(int what) throws IllegalArgumentException {
        if (!within(what, 0, 3)) {
            throw new IllegalArgumentException("nothing such can be dropped");
        }
        loading = null;
        switch (what) {
            case 0:
                return dropAll();
            case 1:
                return dropPassing();
            case 2:
                return takeOut(placeOf(idAtHand));
            default:
                return dropGlyph();
        }
    }

    public boolean pin(int which, int id) {
        Font font = fontWith(id);
        if (!isAtHand(which) || font == null) {
            return false;
        }
        choices[which].pin = id;
        System.arraycopy(font.attributes, 0, choices[which].wish, 0, ATTRIBUTES);
        return true;
    }

    public int chosen(int which) {
        Font font = chosenFont(which);
        return font == null ? NONE : font.id;
    }

    public int font(int i, int w) throws IndexOutOfBoundsException {
        if (!within(i, 0, shelf.size() - 1) || !within(w, 0, 9)) {
            throw new IndexOutOfBoundsException("no such font, or nothing such of it");
        }
        Font font = shelf.get(i);
        switch (w) {
            case 7:
                return font.id;
            case 8:
                return font.isPermanent ? 1 : 0;
            case 9:
                return font.glyphCount;
            default:
                return font.attributes[w];
        }
    }

    public int of(int which, int code, int w) throws IllegalArgumentException, IllegalStateException {
        if (!isAtHand(which) || !within(w, 0, 5)) {
            throw new IllegalArgumentException("no such font at hand, or nothing such of a glyph");
        }
        Glyph glyph = chosenGlyph(which, code);
        if (glyph == null) {
            throw new IllegalStateException("no such glyph in a font chosen");
        }
        switch (w) {
            case 0:
                return glyph.left;
            case 1:
                return glyph.top;
            case 2:
                return glyph.width;
            case 3:
                return glyph.depth;
            case 4:
                return glyph.step;
            default:
                return glyph.blackDots();
        }
    }

    public long row(int which, int code, int j, int k) {
        Glyph glyph = chosenGlyph(which, code);
        return glyph == null ? 0L : glyph.dotsAt(j, k);
    }

    public int wish(int which, int w) throws IndexOutOfBoundsException {
        boolean ofDraft = which == FONTS_AT_HAND;
        if (!(ofDraft || isAtHand(which)) || !within(w, 0, ATTRIBUTES)) {
            throw new IndexOutOfBoundsException("no such wish, or nothing such of it");
        }
        if (w == ATTRIBUTES) {
            return ofDraft ? idAtHand : choices[which].pin;
        }
        return ofDraft ? draft[w] : choices[which].wish[w];
    }

    public int look(int which) {
        switch (which) {
            case 0:
                return shelf.size();
            case 1:
                return glyphsInAll();
            case 2:
                return bytesInAll();
            case 3:
                return idAtHand;
            case 4:
                return codeAtHand;
            case 5:
                return loading == null ? NONE : loading.missing();
            default:
                return NONE;
        }
    }

    private static boolean within(int n, int least, int greatest) {
        return n >= least && n <= greatest;
    }

    private static boolean isAttribute(int w) {
        return within(w, 0, ATTRIBUTES - 1);
    }

    private static boolean isAtHand(int which) {
        return within(which, 0, FONTS_AT_HAND - 1);
    }

    private int placeOf(int id) {
        for (int i = 0; i < shelf.size(); i++) {
            if (shelf.get(i).id == id) {
                return i;
            }
        }
        return NONE;
    }

    private Font fontWith(int id) {
        int place = placeOf(id);
        return place == NONE ? null : shelf.get(place);
    }

    private int takeOut(int place) {
        if (!within(place, 0, shelf.size() - 1)) {
            return 0;
        }
        shelf.remove(place);
        return 1;
    }

    private int dropAll() {
        int went = shelf.size();
        shelf.clear();
        return went;
    }

    private int dropPassing() {
        int went = 0;
        // From the last one back, so that what goes moves none that is still to be looked at.
        for (int i = shelf.size() - 1; i >= 0; i--) {
            if (!shelf.get(i).isPermanent) {
                went += takeOut(i);
            }
        }
        return went;
    }

    private int dropGlyph() {
        Font font = fontWith(idAtHand);
        return font != null && font.remove(codeAtHand) ? 1 : 0;
    }

    private int glyphsInAll() {
        int sum = 0;
        for (int i = 0; i < shelf.size(); i++) {
            sum += shelf.get(i).glyphCount;
        }
        return sum;
    }

    private int bytesInAll() {
        int sum = 0;
        for (int i = 0; i < shelf.size(); i++) {
            sum += shelf.get(i).byteCount;
        }
        return sum;
    }

    private boolean hasRoomFor(Glyph fresh, Glyph old) {
        int glyphs = glyphsInAll() + 1 - (old == null ? 0 : 1);
        int bytes = bytesInAll() + fresh.size() - (old == null ? 0 : old.size());
        return glyphs <= MOST_GLYPHS && bytes <= MOST_BYTES;
    }

    private Glyph chosenGlyph(int which, int code) {
        Font font = chosenFont(which);
        return font == null ? null : font.glyphFor(code);
    }

    private Font chosenFont(int which) {
        if (!isAtHand(which)) {
            return null;
        }
        Font pinned = fontWith(choices[which].pin);
        return pinned != null ? pinned : bestFor(choices[which].wish);
    }

    // The fonts that are still left are the bits of an int, bit i for font i: 32 are just enough.
    private Font bestFor(int[] wish) {
        int left = allFonts();
        left = preferring(left, SET, having(left, SET, wish[SET]) == 0 ? COMMON_SET : wish[SET]);
        left = preferring(left, SPACING, wish[SPACING]);
        if (wish[SPACING] == EVEN && having(left, SPACING, EVEN) == left) {
            left = having(left, PITCH, nextUp(left, PITCH, wish[PITCH]));
        }
        left = having(left, HEIGHT, nearestHeight(left, wish[HEIGHT]));
        left = preferring(left, STYLE, wish[STYLE]);
        // The weight wished for is itself the next one up or down, where a font has it.
        left = having(left, WEIGHT, wish[WEIGHT] >= 0
                ? nextUp(left, WEIGHT, wish[WEIGHT]) : nextDown(left, WEIGHT, wish[WEIGHT]));
        left = preferring(left, FACE, wish[FACE]);
        left = preferringPassing(left);
        int last = 31 - Integer.numberOfLeadingZeros(left);
        return within(last, 0, shelf.size() - 1) ? shelf.get(last) : null;
    }

    private int allFonts() {
        // A shift by 32 would be one by 0.
        return shelf.size() >= MOST_FONTS ? -1 : (1 << shelf.size()) - 1;
    }

    private static boolean isIn(int fonts, int i) {
        return (fonts >>> i & 1) == 1;
    }

    private int having(int among, int w, int value) {
        int found = 0;
        for (int i = 0; i < shelf.size(); i++) {
            if (isIn(among, i) && shelf.get(i).attributes[w] == value) {
                found |= 1 << i;
            }
        }
        return found;
    }

    private int preferring(int among, int w, int value) {
        int found = having(among, w, value);
        return found == 0 ? among : found;
    }

    private int preferringPassing(int among) {
        int found = 0;
        for (int i = 0; i < shelf.size(); i++) {
            if (isIn(among, i) && !shelf.get(i).isPermanent) {
                found |= 1 << i;
            }
        }
        return found == 0 ? among : found;
    }

    private int leastFrom(int among, int w, int floor) {
        int least = ABOVE_ALL;
        for (int i = 0; i < shelf.size(); i++) {
            int value = shelf.get(i).attributes[w];
            if (isIn(among, i) && value >= floor && value < least) {
                least = value;
            }
        }
        return least;
    }

    private int greatestUpTo(int among, int w, int ceiling) {
        int greatest = BELOW_ALL;
        for (int i = 0; i < shelf.size(); i++) {
            int value = shelf.get(i).attributes[w];
            if (isIn(among, i) && value <= ceiling && value > greatest) {
                greatest = value;
            }
        }
        return greatest;
    }

    private int nextUp(int among, int w, int wished) {
        int least = leastFrom(among, w, wished);
        return least == ABOVE_ALL ? greatestUpTo(among, w, wished) : least;
    }

    private int nextDown(int among, int w, int wished) {
        int greatest = greatestUpTo(among, w, wished);
        return greatest == BELOW_ALL ? leastFrom(among, w, wished) : greatest;
    }

    private int nearestHeight(int among, int wished) {
        int above = leastFrom(among, HEIGHT, wished);
        int below = greatestUpTo(among, HEIGHT, wished);
        if (above == ABOVE_ALL) {
            return below;
        }
        if (below == BELOW_ALL) {
            return above;
        }
        return above - wished <= wished - below ? above : below;
    }

    /** One of the two fonts at hand: what it should be like. */
    private static final class Choice {
        final int[] wish = FIRST_DRAFT.clone();
        // It stays when its font goes, and holds again when a font of that ID comes.
        int pin = NONE;
    }

    private static final class Font {
        final int id;
        final int[] attributes;
        final Glyph[] glyphs = new Glyph[CODES];
        boolean isPermanent = false;
        int glyphCount = 0;
        int byteCount = 0;

        Font(int id, int[] attributes) {
            this.id = id;
            this.attributes = attributes;
        }

        Glyph glyphFor(int code) {
            return within(code, 0, CODES - 1) ? glyphs[code] : null;
        }

        void put(int code, Glyph glyph) {
            if (within(code, 0, CODES - 1)) {
                glyphs[code] = glyph;
                glyphCount++;
                byteCount += glyph.size();
            }
        }

        boolean remove(int code) {
            Glyph old = glyphFor(code);
            if (old == null) {
                return false;
            }
            glyphs[code] = null;
            glyphCount--;
            byteCount -= old.size();
            return true;
        }
    }

    /** A glyph; its dots are kept as row() answers them, which takes fewer elements than bytes do. */
    private static final class Glyph {
        final int left;
        final int top;
        final int width;
        final int depth;
        final int step;
        final int bytesInRow;
        final int longsInRow;
        final long[] dots;
        int came = 0;

        Glyph(int left, int top, int width, int depth, int step) {
            this.left = left;
            this.top = top;
            this.width = width;
            this.depth = depth;
            this.step = step;
            bytesInRow = (width + 7) / 8;
            longsInRow = (width + 63) / 64;
            dots = new long[Math.max(0, depth * longsInRow)];
        }

        int size() {
            return depth * bytesInRow;
        }

        int missing() {
            return size() - came;
        }

        void addByte(int dotsOfByte) {
            if (missing() <= 0 || bytesInRow <= 0) {
                return;
            }
            int j = came / bytesInRow;
            int column = came % bytesInRow;
            int beyond = Math.max(0, 8 * column + 8 - width);
            long kept = dotsOfByte >>> beyond << beyond;
            int at = j * longsInRow + column / 8;
            if (within(at, 0, dots.length - 1)) {
                dots[at] |= kept << (56 - 8 * (column % 8));
            }
            came++;
        }

        int blackDots() {
            int sum = 0;
            for (int i = 0; i < dots.length; i++) {
                sum += Long.bitCount(dots[i]);
            }
            return sum;
        }

        long dotsAt(int j, int k) {
            if (!within(j, 0, depth - 1) || !within(k, 0, longsInRow - 1)) {
                return 0L;
            }
            int at = j * longsInRow + k;
            return within(at, 0, dots.length - 1) ? dots[at] : 0L;
        }
    }
}
