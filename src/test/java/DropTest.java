/** Promise 9: drop. */
public final class DropTest {
    public static void main(String[] args) {
        all();
        passing();
        one();
        glyph();
        wrong();
        loadingGoes();
        Due.end();
    }

    private static FontShelf five() {
        FontShelf x = Make.withFonts(1, 2, 3, 4, 5);
        for (int id = 1; id <= 5; id++) {
            Make.blank(x, id, 65, 8, id);
        }
        for (int id = 2; id <= 4; id += 2) {
            x.hand(false, id);
            x.permanent(true);
        }
        return x;
    }

    private static void all() {
        FontShelf x = five();
        Due.is("drop(0)", x.drop(0), 5);
        for (int i = 0; i < 3; i++) {
            Due.is("look(" + i + ")", x.look(i), 0);
        }
        Due.is("ID at hand", x.look(3), 4);
        Due.is("CODE at hand", x.look(4), 65);
        for (int what = 0; what < 4; what++) {
            Due.is("again drop(" + what + ")", x.drop(what), 0);
        }
    }

    private static void passing() {
        FontShelf x = five();
        Due.is("drop(1)", x.drop(1), 3);
        Due.is("fonts", x.look(0), 2);
        Due.is("first", x.font(0, 7), 2);
        Due.is("second", x.font(1, 7), 4);
        Due.is("bytes", x.look(2), 6);
        Due.is("again", x.drop(1), 0);
        x.permanent(false);
        Due.is("not permanent any more", x.drop(1), 1);
        Due.is("left", x.font(0, 7), 2);
    }

    private static void one() {
        FontShelf x = five();
        x.hand(false, 6);
        Due.is("no such font", x.drop(2), 0);
        x.hand(false, 2);
        Due.is("a permanent one", x.drop(2), 1);
        Due.is("again", x.drop(2), 0);
        Due.is("fonts", x.look(0), 4);
        Due.is("bytes", x.look(2), 13);
        int[] ids = {1, 3, 4, 5};
        for (int i = 0; i < ids.length; i++) {
            Due.is("font(" + i + ", 7)", x.font(i, 7), ids[i]);
        }
    }

    private static void glyph() {
        FontShelf x = five();
        Make.blank(x, 3, 66, 8, 7);
        x.hand(true, 67);
        Due.is("no such glyph", x.drop(3), 0);
        x.hand(true, 65);
        Due.is("the glyph", x.drop(3), 1);
        Due.is("again", x.drop(3), 0);
        Due.is("fonts", x.look(0), 5);
        Due.is("its glyphs", x.font(2, 9), 1);
        Due.is("glyphs", x.look(1), 5);
        Due.is("bytes", x.look(2), 1 + 2 + 4 + 5 + 7);
        x.pin(0, 3);
        Due.throwing("it is gone", Due.STATE, () -> x.of(0, 65, 0));
        Due.is("the other is there", x.of(0, 66, 3), 7);
        x.hand(false, 9);
        Due.is("no such font", x.drop(3), 0);
    }

    private static void wrong() {
        FontShelf x = five();
        x.glyph(0, 0, 8, 8, 0);
        for (int what : new int[] {-1, 4, Integer.MIN_VALUE, Integer.MAX_VALUE}) {
            Due.throwing("drop(" + what + ")", Due.ARGUMENT, () -> x.drop(what));
            Due.is("fonts", x.look(0), 5);
            Due.is("still needed", x.look(5), 8);
        }
    }

    private static void loadingGoes() {
        for (int what = 0; what < 4; what++) {
            FontShelf x = Make.withFonts(1);
            x.permanent(true);
            x.glyph(0, 0, 8, 8, 0);
            Due.is("drop(" + what + ")", x.drop(what), what == 0 || what == 2 ? 1 : 0);
            Due.is("loading after drop(" + what + ")", x.look(5), -1);
        }
    }
}
