/** Promise 7: load. */
public final class LoadTest {
    public static void main(String[] args) {
        missingBytesAreWhite();
        replaces();
        noneBegun();
        tooManyGlyphs();
        tooManyBytes();
        manyInSeveralFonts();
        Due.end();
    }

    private static void missingBytesAreWhite() {
        FontShelf x = Make.withFonts(0);
        x.glyph(0, 0, 16, 2, 0);
        x.bytes(0xFFFFFF, 3);
        Due.is("load()", x.load(), 1);
        Due.is("full row", x.row(0, 0, 0, 0), 0xFFFFL << 48);
        Due.is("half row", x.row(0, 0, 1, 0), 0xFF00L << 48);
        Due.is("loading", x.look(5), -1);
        Due.is("bytes", x.look(2), 4);
    }

    private static void replaces() {
        FontShelf x = Make.withFonts(0, 1);
        Due.is("code 1", Make.blank(x, 0, 1, 8, 8), 1);
        Due.is("code 255", Make.blank(x, 0, 255, 8, 8), 2);
        Due.is("code 1 again", Make.blank(x, 0, 1, 8, 3), 2);
        Due.is("another font's code 1", Make.blank(x, 1, 1, 8, 5), 1);
        Due.is("glyphs", x.look(1), 3);
        Due.is("bytes", x.look(2), 16);
        x.pin(0, 0);
        Due.is("depth", x.of(0, 1, 3), 3);
    }

    private static void noneBegun() {
        FontShelf x = new FontShelf();
        Due.throwing("empty shelf", Due.STATE, () -> x.load());
        Make.font(x, 0);
        Due.throwing("none begun", Due.STATE, () -> x.load());
        x.glyph(0, 0, 1, 1, 0);
        x.load();
        Due.throwing("loaded already", Due.STATE, () -> x.load());
        Due.is("glyphs", x.look(1), 1);
    }

    // It takes three calls a glyph, so more than the 512 that are promised: the limit is told all the same.
    private static void tooManyGlyphs() {
        FontShelf x = Make.withFonts(1, 0);
        for (int code = 0; code < 256; code++) {
            Due.is("code " + code, Make.blank(x, 0, code, 0, 0), code + 1);
        }
        Due.throwing("the 257th", Due.UNSUPPORTED, () -> Make.blank(x, 1, 0, 0, 0));
        Due.is("loading", x.look(5), -1);
        Due.throwing("it is thrown away", Due.STATE, () -> x.load());
        Due.is("glyphs", x.look(1), 256);
        Due.is("glyphs of the other", x.font(0, 9), 0);
        Due.is("in place of one", Make.blank(x, 0, 255, 1, 1), 256);
    }

    private static void tooManyBytes() {
        FontShelf x = Make.withFonts(0);
        x.pin(0, 0);
        for (int code = 0; code < 8; code++) {
            Due.is("code " + code, Make.blank(x, 0, code, 128, 128), code + 1);
        }
        Due.is("bytes", x.look(2), 16384);
        Due.throwing("one byte more", Due.UNSUPPORTED, () -> Make.blank(x, 0, 8, 1, 1));
        Due.is("no byte more", Make.blank(x, 0, 8, 0, 1), 9);
        Due.is("in place of one as large", Make.blank(x, 0, 7, 121, 128), 9);
        Make.blank(x, 0, 6, 128, 127);
        Make.blank(x, 0, 9, 8, 16);
        Due.is("full again", x.look(2), 16384);
        Due.throwing("larger than the one there", Due.UNSUPPORTED, () -> Make.blank(x, 0, 9, 8, 17));
        Due.is("that one stays", x.of(0, 9, 3), 16);
        Due.is("glyphs", x.look(1), 10);
        Due.is("bytes", x.look(2), 16384);
        Due.is("loading", x.look(5), -1);
    }

    private static void manyInSeveralFonts() {
        FontShelf x = Make.withFonts(10, 11, 12, 13);
        for (int i = 0; i < 8; i++) {
            Make.blank(x, 10 + i % 4, i, 128, 128);
        }
        Due.throwing("too many in all", Due.UNSUPPORTED, () -> Make.blank(x, 13, 0, 8, 1));
        x.hand(false, 10);
        x.drop(2);
        Due.is("room again", Make.blank(x, 13, 0, 128, 128), 3);
        Due.is("bytes", x.look(2), 7 * 2048);
    }
}
