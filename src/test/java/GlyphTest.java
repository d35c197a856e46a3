/** Promise 5: glyph, and the ranges of its numbers. */
public final class GlyphTest {
    private static final String[] RANGES = {"LEFT (-16384 .. 16383)", "TOP (-16384 .. 16383)", "WIDTH (0 .. 128)",
        "DEPTH (0 .. 128)", "STEP (0 .. 32767)"};
    private static final int[] LEAST = {-16384, -16384, 0, 0, 0};
    private static final int[] GREATEST = {16383, 16383, 128, 128, 32767};

    public static void main(String[] args) {
        for (int i = 0; i < RANGES.length; i++) {
            int at = i;
            Due.sentence(RANGES[at], () -> range(at));
            Due.sentence("IllegalArgumentException if a number is not as said: " + RANGES[at], () -> notAsSaid(at));
        }
        Due.sentence("DEPTH rows of (WIDTH + 7) / 8 bytes: how many bytes it needs", GlyphTest::need);
        Due.sentence("A GLYPH is begun", GlyphTest::onlyBegun);
        Due.sentence("(one that is being loaded is thrown away)", GlyphTest::beginsAgain);
        Due.sentence("IllegalStateException if there is no font of that ID", GlyphTest::noFont);
        Due.sentence("Of several exceptions that hold the first one listed is thrown", GlyphTest::firstListed);
        Due.end();
    }

    private static int begin(FontShelf x, int at, int value) {
        int[] n = {1, 2, 3, 4, 5};
        n[at] = value;
        return x.glyph(n[0], n[1], n[2], n[3], n[4]);
    }

    private static void range(int at) {
        FontShelf x = Make.withFonts(0);
        for (int value : new int[] {LEAST[at], LEAST[at] + 1, GREATEST[at] - 1, GREATEST[at]}) {
            begin(x, at, value);
            Due.is("load()", x.load(), 1);
            for (int w = 0; w < 5; w++) {
                Due.is("of(0, 0, " + w + ")", x.of(0, 0, w), w == at ? value : w + 1);
            }
        }
    }

    private static void notAsSaid(int at) {
        for (int value : Make.outside(LEAST[at], GREATEST[at])) {
            String what = "number " + at + " = " + value;
            Refused.throwing(what, Due.ARGUMENT, Scene.WITH_FONT_AT_HAND, x -> begin(x, at, value));
        }
    }

    private static void need() {
        for (int width = 0; width <= 128; width++) {
            FontShelf x = Make.withFonts(0);
            int inRow = 0;
            while (8 * inRow < width) {
                inRow++;
            }
            for (int depth : new int[] {0, 1, 2, 127, 128}) {
                String what = width + " by " + depth;
                Due.is(what, x.glyph(0, 0, width, depth, 0), depth * inRow);
                Due.is(what + " still needed", x.look(5), depth * inRow);
            }
        }
    }

    private static void onlyBegun() {
        FontShelf x = Scene.IDLE.get();
        x.pin(0, 5);
        Due.is("glyph()", x.glyph(9, 9, 9, 9, 9), 18);
        Due.is("glyphs", x.look(1), 3);
        Due.is("bytes", x.look(2), 4 + 9 + 8);
        Due.is("its font's glyphs", x.font(2, 9), 1);
        Due.is("the one of this CODE is still there", x.of(0, 255, 2), 16);
        Due.is("with its dots", x.row(0, 255, 3, 0), 0x7788L << 48);
    }

    private static void beginsAgain() {
        FontShelf x = Make.withFonts(0);
        x.glyph(1, 1, 8, 2, 1);
        x.bytes(-1, 1);
        Due.is("begun again", x.glyph(2, 3, 8, 3, 4), 3);
        Due.is("still needed", x.look(5), 3);
        Due.is("load()", x.load(), 1);
        int[] want = {2, 3, 8, 3, 4, 0};
        for (int w = 0; w < want.length; w++) {
            Due.is("of(0, 0, " + w + ")", x.of(0, 0, w), want[w]);
        }
        Due.throwing("the first one is gone", Due.STATE, () -> x.load());
    }

    private static void noFont() {
        Refused.throwing("the least", Due.STATE, Scene.WITHOUT_FONT_AT_HAND, x -> x.glyph(0, 0, 0, 0, 0));
        Refused.throwing("another", Due.STATE, Scene.WITHOUT_FONT_AT_HAND, x -> x.glyph(1, 2, 8, 9, 5));
        FontShelf x = Make.withFonts(1, 2);
        x.drop(2);
        Due.throwing("it went", Due.STATE, () -> x.glyph(0, 0, 1, 1, 1));
        x.hand(false, 1);
        Due.is("the other is there", x.glyph(0, 0, 1, 1, 1), 1);
    }

    private static void firstListed() {
        for (int i = 0; i < 5; i++) {
            int at = i;
            for (int value : Make.outside(LEAST[at], GREATEST[at])) {
                String what = "no font, and number " + at + " = " + value;
                Refused.throwing(what, Due.STATE, Scene.WITHOUT_FONT_AT_HAND, x -> begin(x, at, value));
            }
        }
        Refused.throwing("no font, and no number as said", Due.STATE, Scene.WITHOUT_FONT_AT_HAND,
            x -> x.glyph(-16385, 16384, -1, 129, -1));
        Refused.throwing("no number as said", Due.ARGUMENT, Scene.WITH_FONT_AT_HAND,
            x -> x.glyph(-16385, 16384, -1, 129, -1));
    }
}
