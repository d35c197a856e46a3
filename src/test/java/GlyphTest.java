/** Promise 5: glyph. */
public final class GlyphTest {
    public static void main(String[] args) {
        need();
        limits();
        noFont();
        beginsAgain();
        Due.end();
    }

    private static void need() {
        FontShelf x = Make.withFonts(0);
        int[][] sides = {{0, 0, 0}, {0, 128, 0}, {128, 0, 0}, {1, 1, 1}, {8, 3, 3}, {9, 3, 6}, {16, 5, 10},
            {63, 2, 16}, {64, 2, 16}, {65, 2, 18}, {127, 128, 2048}, {128, 128, 2048}, {120, 2, 30}};
        for (int[] side : sides) {
            String what = side[0] + " by " + side[1];
            Due.is(what, x.glyph(0, 0, side[0], side[1], 0), side[2]);
            Due.is(what + " still needed", x.look(5), side[2]);
        }
        Due.is("glyphs before load()", x.look(1), 0);
    }

    private static void limits() {
        int[] least = {-16384, -16384, 0, 0, 0};
        int[] most = {16383, 16383, 128, 128, 32767};
        for (int at = 0; at < 5; at++) {
            FontShelf x = Make.withFonts(0);
            x.pin(0, 0);
            for (int value : new int[] {least[at], most[at]}) {
                begin(x, at, value);
                x.load();
                Due.is("number " + at, x.of(0, 0, at), value);
            }
            begin(x, at, most[at]);
            int needed = x.look(5);
            for (int value : new int[] {least[at] - 1, most[at] + 1, Integer.MIN_VALUE, Integer.MAX_VALUE}) {
                int number = at;
                Due.throwing("number " + at + " = " + value, Due.ARGUMENT, () -> begin(x, number, value));
                Due.is("the one before stays", x.look(5), needed);
            }
            x.load();
            Due.is("and can be loaded", x.of(0, 0, at), most[at]);
        }
    }

    private static int begin(FontShelf x, int at, int value) {
        int[] n = {1, 2, 3, 4, 5};
        n[at] = value;
        return x.glyph(n[0], n[1], n[2], n[3], n[4]);
    }

    private static void noFont() {
        FontShelf x = new FontShelf();
        Due.throwing("empty shelf", Due.STATE, () -> x.glyph(0, 0, 1, 1, 1));
        Due.throwing("empty shelf, wrong number", Due.STATE, () -> x.glyph(0, 0, 129, 1, 1));
        Make.font(x, 3);
        x.hand(false, 4);
        Due.throwing("another ID", Due.STATE, () -> x.glyph(0, 0, 1, 1, 1));
        Due.throwing("another ID, wrong number", Due.STATE, () -> x.glyph(0, 0, 1, 1, -1));
        Due.is("loading", x.look(5), -1);
    }

    private static void beginsAgain() {
        FontShelf x = Make.withFonts(0);
        x.glyph(1, 1, 8, 2, 1);
        x.bytes(-1, 1);
        Due.is("begun again", x.glyph(2, 2, 8, 3, 2), 3);
        Due.is("still needed", x.look(5), 3);
        Due.is("load()", x.load(), 1);
        Due.is("LEFT", x.of(0, 0, 0), 2);
        Due.is("black", x.of(0, 0, 5), 0);
    }
}
