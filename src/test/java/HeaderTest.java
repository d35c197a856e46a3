/** Promise 4: header. */
public final class HeaderTest {
    public static void main(String[] args) {
        takesDraft();
        replaces();
        full();
        Due.end();
    }

    private static void takesDraft() {
        FontShelf x = new FontShelf();
        int[] attributes = {10, 1, 20, 30, 40, -5, 60};
        x.hand(false, 32767);
        for (int w = 0; w < attributes.length; w++) {
            x.attribute(false, 0, w, attributes[w]);
        }
        Due.is("header()", x.header(), 1);
        x.attribute(false, 0, 0, 11);
        x.hand(false, 1);
        Due.is("header()", x.header(), 2);
        x.attribute(false, 0, 6, 61);
        for (int w = 0; w < attributes.length; w++) {
            Due.is("font(0, " + w + ")", x.font(0, w), attributes[w]);
            Due.is("font(1, " + w + ")", x.font(1, w), w == 0 ? 11 : attributes[w]);
        }
        Due.is("ID", x.font(0, 7), 32767);
        Due.is("permanent", x.font(0, 8), 0);
        Due.is("glyphs", x.font(0, 9), 0);
    }

    private static void replaces() {
        FontShelf x = Make.withFonts(1, 2, 3);
        Make.blank(x, 1, 65, 8, 8);
        Make.blank(x, 2, 65, 8, 4);
        x.hand(false, 1);
        x.permanent(true);
        x.glyph(0, 0, 1, 1, 1);
        Due.is("header() again", x.header(), 3);
        Due.is("loading", x.look(5), -1);
        Due.is("first", x.font(0, 7), 2);
        Due.is("second", x.font(1, 7), 3);
        Due.is("last", x.font(2, 7), 1);
        Due.is("permanent", x.font(2, 8), 0);
        Due.is("glyphs of it", x.font(2, 9), 0);
        Due.is("glyphs", x.look(1), 1);
        Due.is("bytes", x.look(2), 4);
    }

    private static void full() {
        FontShelf x = new FontShelf();
        for (int id = 0; id < 32; id++) {
            x.hand(false, id);
            Due.is("header() " + id, x.header(), id + 1);
        }
        x.hand(false, 32);
        Due.throwing("the 33rd", Due.STATE, () -> x.header());
        Due.is("fonts", x.look(0), 32);
        Due.is("the last stays", x.font(31, 7), 31);
        x.hand(false, 31);
        Due.is("one of the 32 again", x.header(), 32);
        x.hand(false, 0);
        Due.is("the first of the 32 again", x.header(), 32);
        Due.is("now the first", x.font(0, 7), 1);
        Due.is("now the last", x.font(31, 7), 0);
        x.drop(2);
        x.hand(false, 32);
        Due.is("room again", x.header(), 32);
    }
}
