/** Shelves and fonts that several tests need. */
final class Make {
    private Make() {
    }

    /** A font with these attributes; the draft and the ID at hand are left as this needed them. */
    static void font(FontShelf x, int id, int... attributes) {
        Due.yes("hand(false, " + id + ")", x.hand(false, id));
        for (int w = 0; w < attributes.length; w++) {
            Due.yes("attribute " + w + " " + attributes[w], x.attribute(false, 0, w, attributes[w]));
        }
        x.header();
    }

    static FontShelf withFonts(int... ids) {
        FontShelf x = new FontShelf();
        for (int id : ids) {
            font(x, id);
        }
        return x;
    }

    /** A glyph without any dot that comes, for the font and code given. */
    static int blank(FontShelf x, int id, int code, int width, int depth) {
        x.hand(false, id);
        x.hand(true, code);
        x.glyph(0, 0, width, depth, 0);
        return x.load();
    }

    static void wish(FontShelf x, int which, int... attributes) {
        for (int w = 0; w < attributes.length; w++) {
            Due.yes("wished " + w + " " + attributes[w], x.attribute(true, which, w, attributes[w]));
        }
    }
}
