import java.util.Random;

/** All promises at once: runs of some 512 calls, always the same ones, held against the model. */
public final class ModelTest {
    private static final int RUNS = 6000;
    private static final int CALLS = 512;
    private static final int MOST_CALLS_OF_A_STEP = 22;
    private static final int MOST_TOLD = 20;
    private static final int[] WILD = {Integer.MIN_VALUE, Integer.MAX_VALUE, -1, 32768, 1 << 26, 1 << 30, -32769};

    private final Random random;
    private final int ids;
    private final int codes;
    private final boolean small;
    private final FontShelf real = new FontShelf();
    private final Model model = new Model();
    private String call;
    private int calls = 0;

    private ModelTest(int seed) {
        random = new Random(seed);
        ids = 1 + random.nextInt(seed % 3 == 0 ? 60 : 8);
        codes = 1 + random.nextInt(seed % 4 == 0 ? 256 : 5);
        small = seed % 2 == 0;
    }

    public static void main(String[] args) {
        int wrong = 0;
        for (int seed = 0; seed < RUNS && wrong < MOST_TOLD; seed++) {
            ModelTest run = new ModelTest(seed);
            if (!run.goesRight()) {
                Due.tell("seed " + seed + ", call " + run.calls + ": " + run.call);
                wrong++;
            }
        }
        Due.end();
    }

    private boolean goesRight() {
        boolean right = true;
        while (right && calls <= CALLS - MOST_CALLS_OF_A_STEP) {
            right = change() && (random.nextInt(4) != 0 || looksSame());
        }
        return right;
    }

    private int upTo(int least, int most) {
        if (random.nextInt(40) == 0) {
            return WILD[random.nextInt(WILD.length)];
        }
        if (random.nextInt(12) == 0) {
            return random.nextBoolean() ? least - random.nextInt(2) : most + random.nextInt(2);
        }
        return least + random.nextInt(most - least + 1);
    }

    /** Few values, so that fonts are often alike in some attributes. */
    private int value(int w) {
        int[][] usual = {{277, 10, 20}, {0, 1}, {900, 1000, 1200}, {1000, 1200, 1400, 1300}, {0, 1, 2},
            {-3, -1, 0, 1, 4, -6}, {3, 4, 5}};
        if (w < 0 || w > 6 || random.nextInt(10) == 0) {
            return upTo(Model.LEAST[Math.floorMod(w, 7)], Model.MOST[Math.floorMod(w, 7)]);
        }
        return usual[w][random.nextInt(usual[w].length)];
    }

    private int side() {
        return small ? upTo(0, 12) : upTo(0, 128);
    }

    private boolean same(String name, Due.Call ofReal, Due.Call ofModel) {
        calls++;
        String got = Due.outcome(ofReal);
        String want = outcomeOf(ofModel);
        call = name + " answered " + got + ", due is " + want;
        return got.equals(want);
    }

    private static String outcomeOf(Due.Call answer) {
        try {
            return Long.toString(answer.answer());
        } catch (RuntimeException e) {
            return e.getClass().getName();
        }
    }

    private static long one(boolean yes) {
        return yes ? 1 : 0;
    }

    private boolean looksSame() {
        for (int i = 0; i < 6; i++) {
            int which = i;
            if (!same(call + "; then look(" + i + ")", () -> real.look(which), () -> model.look(which))) {
                return false;
            }
        }
        return ask();
    }

    private boolean change() {
        int kind = random.nextInt(100);
        boolean flag = random.nextInt(4) != 0;
        int which = upTo(0, 1);
        if (kind < 22) {
            boolean code = random.nextBoolean();
            int n = random.nextInt(30) == 0 ? upTo(0, code ? 255 : 32767) : random.nextInt(code ? codes : ids);
            return same("hand " + code + " " + n, () -> one(real.hand(code, n)), () -> one(model.hand(code, n)));
        }
        if (kind < 42) {
            int w = upTo(0, 6);
            int v = value(w);
            boolean wish = random.nextBoolean();
            return same("attribute " + wish + " " + which + " " + w + " " + v,
                () -> one(real.attribute(wish, which, w, v)), () -> one(model.attribute(wish, which, w, v)));
        }
        if (kind < 54) {
            return same("header", () -> real.header(), () -> model.header());
        }
        if (kind < 68) {
            return wholeGlyph();
        }
        if (kind < 72) {
            return beginGlyph();
        }
        if (kind < 75) {
            return moreBytes();
        }
        if (kind < 78) {
            return same("load", () -> real.load(), () -> model.load());
        }
        if (kind < 86) {
            return same("permanent " + flag, () -> one(real.permanent(flag)), () -> one(model.permanent(flag)));
        }
        if (kind < 90) {
            int what = random.nextInt(12) == 0 ? upTo(0, 1) : upTo(2, 3);
            return same("drop " + what, () -> real.drop(what), () -> model.drop(what));
        }
        int id = random.nextInt(10) == 0 ? upTo(0, 32767) : random.nextInt(ids);
        return same("pin " + which + " " + id, () -> one(real.pin(which, id)), () -> one(model.pin(which, id)));
    }

    private boolean beginGlyph() {
        int left = upTo(-16384, 16383);
        int top = upTo(-16384, 16383);
        int width = side();
        int depth = side();
        int step = upTo(0, 32767);
        return same("glyph " + left + " " + top + " " + width + " " + depth + " " + step,
            () -> real.glyph(left, top, width, depth, step), () -> model.glyph(left, top, width, depth, step));
    }

    private boolean moreBytes() {
        long part = random.nextLong();
        int n = upTo(1, 8);
        return same("bytes " + part + " " + n, () -> one(real.bytes(part, n)), () -> one(model.bytes(part, n)));
    }

    private boolean wholeGlyph() {
        if (!beginGlyph()) {
            return false;
        }
        for (int i = random.nextInt(8); i > 0; i--) {
            if (!moreBytes()) {
                return false;
            }
        }
        return same("load", () -> real.load(), () -> model.load());
    }

    private boolean ask() {
        int which = upTo(0, 1);
        int told = upTo(0, 2);
        int i = upTo(0, 5);
        int w = upTo(0, 9);
        int code = random.nextInt(4) == 0 ? upTo(0, 255) : random.nextInt(codes);
        int j = upTo(0, small ? 12 : 127);
        int k = upTo(0, 1);
        int ofGlyph = upTo(0, 5);
        String after = call;
        return same(after + "; chosen " + which, () -> real.chosen(which), () -> model.chosen(which))
            && same(after + "; chosen 0", () -> real.chosen(0), () -> model.chosen(0))
            && same(after + "; font " + i + " " + w, () -> real.font(i, w), () -> model.font(i, w))
            && same(after + "; wish " + told + " " + w, () -> real.wish(told, w), () -> model.wish(told, w))
            && same(after + "; of " + which + " " + code + " " + ofGlyph,
                () -> real.of(which, code, ofGlyph), () -> model.of(which, code, ofGlyph))
            && same(after + "; row " + which + " " + code + " " + j + " " + k,
                () -> real.row(which, code, j, k), () -> model.row(which, code, j, k));
    }
}
