/** Fonts, glyphs and numbers that several tests need. */
final class Make {
    static final int[] FIRST_DRAFT = {277, 0, 1000, 1200, 0, 0, 3};
    static final int[] LEAST_VALUE = {0, 0, 1, 1, 0, -7, 0};
    static final int[] GREATEST_VALUE = {2047, 1, 57600, 99999, 32767, 7, 65535};
    static final int[] NO_WHICH = outside(0, 1);

    private Make() {
    }

    /** The first number that is refused on either side, and the least and the greatest int. */
    static int[] outside(int least, int greatest) {
        return new int[] {least - 1, greatest + 1, Integer.MIN_VALUE, Integer.MAX_VALUE};
    }

    /** A font with these attributes; the draft and the ID at hand are left as this needed them. */
    static void font(FontShelf x, int id, int... attributes) {
        Due.yes("hand(false, " + id + ")", x.hand(false, id));
        draft(x, attributes);
        x.header();
    }

    static void draft(FontShelf x, int... attributes) {
        for (int w = 0; w < attributes.length; w++) {
            Due.yes("draft's " + w + " " + attributes[w], x.attribute(false, 0, w, attributes[w]));
        }
    }

    static FontShelf withFonts(int... ids) {
        FontShelf x = new FontShelf();
        for (int id : ids) {
            font(x, id);
        }
        return x;
    }

    /** A glyph without any dot that comes, for the font and code given. */
    static int blank(FontShelf x, int id, int code, int width, int depth) {
        x.hand(false, id);
        x.hand(true, code);
        x.glyph(0, 0, width, depth, 0);
        return x.load();
    }

    /** A glyph of the font and code at hand, to which each part brings eight bytes. */
    static int dots(FontShelf x, int width, int depth, long... parts) {
        x.glyph(0, 0, width, depth, 0);
        for (long part : parts) {
            Due.yes("bytes", x.bytes(part, 8));
        }
        return x.load();
    }

    static void wish(FontShelf x, int which, int... attributes) {
        for (int w = 0; w < attributes.length; w++) {
            Due.yes("wished " + w + " " + attributes[w], x.attribute(true, which, w, attributes[w]));
        }
    }

    static void attributesAre(String what, FontShelf x, int i, int... want) {
        for (int w = 0; w < want.length; w++) {
            Due.is(what + ": font(" + i + ", " + w + ")", x.font(i, w), want[w]);
        }
    }

    static void idsAre(String what, FontShelf x, int... want) {
        Due.is(what + ": fonts", x.look(0), want.length);
        for (int i = 0; i < want.length; i++) {
            Due.is(what + ": font(" + i + ", 7)", x.font(i, 7), want[i]);
        }
    }
}
