import java.util.List;
import java.util.function.Supplier;

/** Promise 7: load, and what the shelf may have of glyphs. */
public final class LoadTest {
    public static void main(String[] args) {
        Due.sentence("GLYPHS for CODES 0 .. 255", LoadTest::codes);
        Due.sentence("(bytes that did not come are 0)", LoadTest::missingBytes);
        Due.sentence("in place of one of this CODE", LoadTest::inPlace);
        Due.sentence("how many glyphs the font has", LoadTest::count);
        Due.sentence("IllegalStateException if none is being loaded", LoadTest::noneBegun);
        Due.sentence("UnsupportedOperationException if there were more than 256 glyphs", LoadTest::tooManyGlyphs);
        Due.sentence("or more than 16384 bytes of them", LoadTest::tooManyBytes);
        Due.sentence("more than 16384 bytes of them, in all", LoadTest::bytesOfAllFonts);
        Due.sentence("(the one whose place it takes not counted)", LoadTest::oldOneNotCounted);
        Due.sentence("it is thrown away, and that one stays", LoadTest::thrownAway);
        Due.end();
    }

    private static void codes() {
        FontShelf x = Make.withFonts(3);
        int[] codes = {0, 255, 1, 254};
        for (int i = 0; i < codes.length; i++) {
            Due.is("code " + codes[i], Make.blank(x, 3, codes[i], 20 + i, 1), i + 1);
        }
        for (int i = 0; i < codes.length; i++) {
            Due.is("WIDTH of code " + codes[i], x.of(0, codes[i], 2), 20 + i);
        }
    }

    private static void missingBytes() {
        for (int n = 0; n <= 4; n++) {
            FontShelf x = Make.withFonts(0);
            Make.dots(x, 16, 2, -1L);
            x.glyph(0, 0, 16, 2, 0);
            for (int i = 0; i < n; i++) {
                x.bytes(-1, 1);
            }
            Due.is("still needed", x.look(5), 4 - n);
            Due.is("load()", x.load(), 1);
            Due.is("black after " + n, x.of(0, 0, 5), 8 * n);
            Due.is("row 0 after " + n, x.row(0, 0, 0, 0), n == 0 ? 0 : n == 1 ? 0xFFL << 56 : 0xFFFFL << 48);
            Due.is("row 1 after " + n, x.row(0, 0, 1, 0), n <= 2 ? 0 : n == 3 ? 0xFFL << 56 : 0xFFFFL << 48);
            Due.is("bytes", x.look(2), 4);
            Due.is("loading", x.look(5), -1);
        }
    }

    private static void inPlace() {
        FontShelf x = Make.withFonts(1, 0);
        Make.blank(x, 1, 255, 8, 5);
        Make.blank(x, 0, 254, 8, 6);
        x.hand(true, 255);
        Make.dots(x, 16, 4, -1L);
        x.glyph(1, 2, 9, 3, 4);
        x.bytes(0x0080L, 2);
        Due.is("load()", x.load(), 2);
        int[] want = {1, 2, 9, 3, 4, 1};
        for (int w = 0; w < want.length; w++) {
            Due.is("of(0, 255, " + w + ")", x.of(0, 255, w), want[w]);
        }
        Due.is("row 0", x.row(0, 255, 0, 0), 0x0080L << 48);
        Due.is("row 1", x.row(0, 255, 1, 0), 0);
        Due.is("row 3", x.row(0, 255, 3, 0), 0);
        Due.is("glyphs", x.look(1), 3);
        Due.is("bytes", x.look(2), 5 + 6 + 6);
        Due.is("the next CODE's", x.of(0, 254, 3), 6);
        x.pin(1, 1);
        Due.is("the other font's of this CODE", x.of(1, 255, 3), 5);
    }

    private static void count() {
        FontShelf x = Make.withFonts(0, 1);
        Due.is("the first", Make.blank(x, 0, 1, 8, 8), 1);
        Due.is("the second", Make.blank(x, 0, 255, 8, 8), 2);
        Due.is("the first again", Make.blank(x, 0, 1, 8, 3), 2);
        Due.is("another font's first", Make.blank(x, 1, 1, 8, 5), 1);
        x.hand(false, 0);
        Due.is("one goes", x.drop(3), 1);
        Due.is("it comes again", Make.blank(x, 0, 1, 0, 0), 2);
    }

    private static void noneBegun() {
        Refused.throwing("none begun", Due.STATE, Scene.NONE_BEING_LOADED, x -> x.load());
        Refused.throwing("loaded already", Due.STATE, List.of(LoadTest::loaded), x -> x.load());
        Refused.throwing("refused already", Due.STATE, List.of(LoadTest::thrown), x -> x.load());
    }

    private static FontShelf loaded() {
        FontShelf x = Scene.BUSY.get();
        Due.is("load()", x.load(), 1);
        return x;
    }

    private static FontShelf thrown() {
        FontShelf x = begun(Scene.BRIMFUL, 64, 2);
        Due.throwing("load()", Due.UNSUPPORTED, () -> x.load());
        return x;
    }

    // Three calls a glyph go past the 512 that are promised, behind which answers are free: within them this limit
    // can't be reached, so it is tested here or nowhere.
    private static void tooManyGlyphs() {
        FontShelf x = Make.withFonts(1, 0);
        for (int code = 0; code < 255; code++) {
            Due.is("code " + code, Make.blank(x, 0, code, 0, 0), code + 1);
        }
        Due.is("the 256th, another font's", Make.blank(x, 1, 65, 1, 1), 1);
        Due.throwing("the 257th", Due.UNSUPPORTED, () -> Make.blank(x, 0, 255, 0, 0));
        Due.is("loading", x.look(5), -1);
        Due.throwing("it is thrown away", Due.STATE, () -> x.load());
        Due.throwing("another font's", Due.UNSUPPORTED, () -> Make.blank(x, 1, 66, 0, 0));
        Due.is("glyphs", x.look(1), 256);
        Due.is("glyphs of the one", x.font(0, 9), 1);
        Due.is("glyphs of the other", x.font(1, 9), 255);
        Due.is("in place of one", Make.blank(x, 0, 0, 1, 2), 255);
        Due.is("glyphs", x.look(1), 256);
        x.drop(3);
        Due.is("room again", Make.blank(x, 0, 255, 1, 1), 255);
        Due.throwing("and none again", Due.UNSUPPORTED, () -> Make.blank(x, 0, 0, 0, 0));
    }

    private static FontShelf begun(Supplier<FontShelf> scene, int width, int depth) {
        FontShelf x = scene.get();
        x.glyph(7, 7, width, depth, 7);
        x.bytes(-1, 8);
        return x;
    }

    private static void tooManyBytes() {
        FontShelf x = Make.withFonts(0);
        for (int code = 0; code < 7; code++) {
            Due.is("code " + code, Make.blank(x, 0, code, 128, 128), code + 1);
        }
        Due.is("code 7", Make.blank(x, 0, 7, 128, 127), 8);
        Due.is("bytes", x.look(2), 16368);
        Due.throwing("17 more", Due.UNSUPPORTED, () -> Make.blank(x, 0, 8, 8, 17));
        Due.is("bytes", x.look(2), 16368);
        Due.is("16 more", Make.blank(x, 0, 8, 8, 16), 9);
        Due.is("bytes", x.look(2), 16384);
        Due.throwing("one more", Due.UNSUPPORTED, () -> Make.blank(x, 0, 9, 1, 1));
        Due.throwing("2048 more", Due.UNSUPPORTED, () -> Make.blank(x, 0, 9, 128, 128));
        Due.is("none more: no WIDTH", Make.blank(x, 0, 9, 0, 128), 10);
        Due.is("none more: no DEPTH", Make.blank(x, 0, 10, 128, 0), 11);
        Due.is("bytes", x.look(2), 16384);
    }

    private static void bytesOfAllFonts() {
        FontShelf x = Make.withFonts(10, 11, 12, 13);
        for (int i = 0; i < 8; i++) {
            Make.blank(x, 10 + i % 4, i, 128, 128);
        }
        for (int id = 10; id <= 13; id++) {
            int of = id;
            Due.throwing("for font " + id, Due.UNSUPPORTED, () -> Make.blank(x, of, 99, 8, 1));
        }
        x.hand(false, 10);
        x.drop(2);
        Due.is("room again", Make.blank(x, 13, 0, 128, 128), 3);
        Due.is("bytes", x.look(2), 7 * 2048);
        Due.is("and again", Make.blank(x, 12, 0, 128, 128), 3);
        Due.throwing("and no more", Due.UNSUPPORTED, () -> Make.blank(x, 11, 0, 1, 1));
    }

    private static void oldOneNotCounted() {
        FontShelf x = Scene.BRIMFUL.get();
        Due.is("bytes", x.look(2), 16384);
        Due.is("as large", Make.blank(x, 0, 255, 64, 1), 2);
        Due.is("bytes", x.look(2), 16384);
        Due.throwing("larger by one", Due.UNSUPPORTED, () -> Make.blank(x, 0, 255, 72, 1));
        Due.throwing("as large, but of another CODE", Due.UNSUPPORTED, () -> Make.blank(x, 0, 254, 64, 1));
        Due.throwing("as large, but of another font", Due.UNSUPPORTED, () -> Make.blank(x, 1, 255, 64, 1));
        Due.is("smaller by one", Make.blank(x, 0, 255, 56, 1), 2);
        Due.is("bytes", x.look(2), 16383);
        Due.is("larger again", Make.blank(x, 0, 255, 64, 1), 2);
        Due.is("bytes", x.look(2), 16384);
    }

    private static void thrownAway() {
        Supplier<FontShelf> larger = () -> begun(Scene.BRIMFUL, 64, 2);
        FontShelf x = larger.get();
        Due.throwing("load()", Due.UNSUPPORTED, () -> x.load());
        Due.is("loading", x.look(5), -1);
        Due.no("bytes", x.bytes(1, 1));
        Shown.same("a larger one", Refused.after(larger, y -> y.load()), Scene.BRIMFUL);
        Supplier<FontShelf> another = () -> {
            FontShelf y = Scene.BRIMFUL.get();
            y.hand(true, 66);
            return y;
        };
        Supplier<FontShelf> anotherBegun = () -> begun(another, 1, 1);
        Due.throwing("load() of another CODE", Due.UNSUPPORTED, () -> anotherBegun.get().load());
        Shown.same("one of another CODE", Refused.after(anotherBegun, y -> y.load()), another);
    }
}
