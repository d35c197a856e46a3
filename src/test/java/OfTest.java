import java.util.List;

/** Promise 13: of. */
public final class OfTest {
    public static void main(String[] args) {
        Due.sentence("w = 0: LEFT, 1: TOP, 2: WIDTH, 3: DEPTH, 4: STEP", OfTest::numbers);
        Due.sentence("5: how many dots are black", OfTest::black);
        Due.sentence("Of the glyph of a code in the font CHOSEN", OfTest::ofFontChosen);
        Due.sentence("IllegalArgumentException if which is none", OfTest::noWhich);
        Due.sentence("IllegalArgumentException if w is none", OfTest::noSuch);
        Due.sentence("IllegalStateException if no font is chosen", OfTest::noFont);
        Due.sentence("or it has no such glyph", OfTest::noGlyph);
        Due.sentence("Of several exceptions that hold the first one listed is thrown", OfTest::firstListed);
        Due.end();
    }

    private static void numbers() {
        int[][] glyphs = {{-16384, 16383, 70, 3, 32767}, {16383, -16384, 128, 128, 0}, {0, 0, 0, 0, 0},
            {1, 2, 3, 4, 5}};
        FontShelf x = Make.withFonts(3);
        for (int[] n : glyphs) {
            x.glyph(n[0], n[1], n[2], n[3], n[4]);
            x.load();
            for (int w = 0; w < n.length; w++) {
                Due.is("of(0, 0, " + w + ")", x.of(0, 0, w), n[w]);
                Due.is("of(1, 0, " + w + ")", x.of(1, 0, w), n[w]);
            }
        }
    }

    private static void black() {
        FontShelf x = Make.withFonts(3);
        Make.dots(x, 70, 3, 0x8000_0000_0000_0001L, 0xFF00_0000_0000_0000L);
        Due.is("two of 64, then six of eight", x.of(0, 0, 5), 2 + 6);
        x.glyph(0, 0, 128, 128, 0);
        for (int i = 0; i < 256; i++) {
            x.bytes(-1, 8);
        }
        x.load();
        Due.is("all of the greatest", x.of(0, 0, 5), 128 * 128);
        Make.dots(x, 128, 128);
        Due.is("none of the greatest", x.of(0, 0, 5), 0);
        Make.dots(x, 1, 1, Long.MIN_VALUE);
        Due.is("the only one", x.of(0, 0, 5), 1);
        Make.dots(x, 1, 1, Long.MAX_VALUE);
        Due.is("all but the only one", x.of(0, 0, 5), 0);
        Make.dots(x, 0, 128, -1L);
        Due.is("no WIDTH", x.of(0, 0, 5), 0);
        Make.dots(x, 128, 0, -1L);
        Due.is("no DEPTH", x.of(0, 0, 5), 0);
    }

    private static void ofFontChosen() {
        FontShelf x = Make.withFonts(3, 4);
        Make.blank(x, 3, 0, 30, 1);
        Make.blank(x, 4, 0, 40, 1);
        Due.is("the last one", x.of(0, 0, 2), 40);
        x.pin(1, 3);
        Due.is("the PINNED one", x.of(1, 0, 2), 30);
        Due.is("the other at hand", x.of(0, 0, 2), 40);
        x.drop(2);
        Due.is("what is left", x.of(0, 0, 2), 30);
    }

    private static void noWhich() {
        for (int which : Make.NO_WHICH) {
            for (int i = 0; i < 6; i++) {
                int w = i;
                String what = "of(" + which + ", 255, " + w + ")";
                Refused.throwing(what, Due.ARGUMENT, Scene.ALL, x -> x.of(which, 255, w));
            }
        }
    }

    private static void noSuch() {
        for (int w : Make.outside(0, 5)) {
            Refused.throwing("of(0, 0, " + w + ")", Due.ARGUMENT, Scene.ALL, x -> x.of(0, 0, w));
            Refused.throwing("of(1, 255, " + w + ")", Due.ARGUMENT, Scene.ALL, x -> x.of(1, 255, w));
        }
        Due.is("WIDTH where the ends of w were asked for", Scene.BUSY.get().of(0, 0, 2), 9);
        Due.is("WIDTH where the ends of w were asked for", Scene.BUSY.get().of(1, 255, 2), 16);
    }

    private static void noFont() {
        for (int i = 0; i < 12; i++) {
            int which = i / 6;
            int w = i % 6;
            String what = "of(" + which + ", 0, " + w + ")";
            Refused.throwing(what, Due.STATE, List.of(Scene.EMPTY), x -> x.of(which, 0, w));
        }
        FontShelf x = Scene.BUSY.get();
        x.drop(0);
        Due.throwing("all went", Due.STATE, () -> x.of(0, 0, 0));
    }

    private static void noGlyph() {
        for (int i = 0; i < 6; i++) {
            int w = i;
            for (int code : Make.outside(0, 255)) {
                Refused.throwing("of(0, " + code + ", " + w + ")", Due.STATE, Scene.ALL, x -> x.of(0, code, w));
            }
            for (int code : new int[] {1, 65, 254, 255}) {
                String what = "of(0, " + code + ", " + w + ")";
                Refused.throwing(what, Due.STATE, List.of(Scene.BUSY), x -> x.of(0, code, w));
            }
        }
        FontShelf x = Make.withFonts(0);
        x.glyph(0, 0, 1, 1, 1);
        Due.throwing("only begun", Due.STATE, () -> x.of(0, 0, 0));
        x.load();
        Due.is("loaded", x.of(0, 0, 4), 1);
        x.drop(3);
        Due.throwing("it went", Due.STATE, () -> x.of(0, 0, 0));
    }

    private static void firstListed() {
        for (int wrong : Make.outside(0, 5)) {
            String what = "with which or w " + wrong;
            Refused.throwing("no font " + what, Due.ARGUMENT, List.of(Scene.EMPTY), x -> x.of(wrong, 0, 0));
            Refused.throwing("no font " + what, Due.ARGUMENT, List.of(Scene.EMPTY), x -> x.of(0, 0, wrong));
            Refused.throwing("no glyph " + what, Due.ARGUMENT, Scene.ALL, x -> x.of(wrong, 77, 0));
            Refused.throwing("no glyph " + what, Due.ARGUMENT, Scene.ALL, x -> x.of(1, 77, wrong));
            Refused.throwing("no code " + what, Due.ARGUMENT, Scene.ALL, x -> x.of(wrong, 256, wrong));
        }
    }
}
