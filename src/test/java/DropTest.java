import java.util.List;

/** Promise 9: drop. */
public final class DropTest {
    public static void main(String[] args) {
        Due.sentence("what = 0: all fonts go", DropTest::all);
        Due.sentence("1: all that are not PERMANENT", DropTest::passing);
        Due.sentence("2: that of the ID at hand", DropTest::one);
        Due.sentence("3: its glyph of the CODE at hand (no font goes)", DropTest::glyph);
        Due.sentence("how many fonts (for 3 glyphs) went", DropTest::nothingWent);
        Due.sentence("IllegalArgumentException for any other what", DropTest::anyOther);
        Due.sentence("(A glyph that is being loaded is thrown away.)", DropTest::throwsLoadingAway);
        Due.end();
    }

    /** The fonts 1 .. 5, each with a glyph of as many bytes; 2 and 4 are permanent, and 4 is at hand. */
    private static FontShelf five() {
        FontShelf x = Make.withFonts(1, 2, 3, 4, 5);
        for (int id = 1; id <= 5; id++) {
            Make.blank(x, id, 65, 8, id);
        }
        for (int id = 2; id <= 4; id += 2) {
            x.hand(false, id);
            x.permanent(true);
        }
        return x;
    }

    private static void counts(FontShelf x, int fonts, int glyphs, int bytes) {
        Due.is("fonts", x.look(0), fonts);
        Due.is("glyphs", x.look(1), glyphs);
        Due.is("bytes", x.look(2), bytes);
    }

    private static void all() {
        FontShelf x = five();
        x.pin(0, 4);
        Due.is("drop(0)", x.drop(0), 5);
        counts(x, 0, 0, 0);
        Due.is("ID at hand", x.look(3), 4);
        Due.is("CODE at hand", x.look(4), 65);
        Due.is("chosen", x.chosen(0), -1);
        Due.is("PIN", x.wish(0, 7), 4);
        Due.is("the next one", x.header(), 1);
        Due.is("32 fonts", Scene.FULL.get().drop(0), 32);
    }

    private static void passing() {
        FontShelf x = five();
        Due.is("drop(1)", x.drop(1), 3);
        Make.idsAre("permanent ones", x, 2, 4);
        counts(x, 2, 2, 6);
        Due.is("all are permanent", x.drop(1), 0);
        Make.idsAre("all are permanent", x, 2, 4);
        Due.yes("off", x.permanent(false));
        Due.is("not permanent any more", x.drop(1), 1);
        Make.idsAre("left", x, 2);
        FontShelf none = Make.withFonts(1, 2, 3);
        Due.is("none is permanent", none.drop(1), 3);
        counts(none, 0, 0, 0);
        Due.is("31 of 32", Scene.FULL.get().drop(1), 31);
    }

    private static void one() {
        int[][] left = {{2, 3, 4, 5}, {1, 3, 4, 5}, {1, 2, 4, 5}, {1, 2, 3, 5}, {1, 2, 3, 4}};
        for (int id = 1; id <= 5; id++) {
            FontShelf x = five();
            x.hand(false, id);
            Due.is("drop(2) of " + id, x.drop(2), 1);
            Make.idsAre("without " + id, x, left[id - 1]);
            counts(x, 4, 4, 15 - id);
            Due.is("ID at hand", x.look(3), id);
        }
        FontShelf x = Scene.FULL.get();
        x.hand(false, 32);
        Due.is("the first of 32", x.drop(2), 1);
        x.hand(false, 1);
        Due.is("the last of 31", x.drop(2), 1);
        Due.is("fonts", x.look(0), 30);
    }

    private static void glyph() {
        FontShelf x = five();
        for (int code : new int[] {0, 255}) {
            Make.blank(x, 4, code, 8, 7);
            Due.is("code " + code, x.drop(3), 1);
            counts(x, 5, 5, 15);
            Due.is("its font's", x.font(3, 9), 1);
        }
        x.pin(0, 4);
        x.hand(true, 65);
        Due.is("its only one", x.drop(3), 1);
        counts(x, 5, 4, 11);
        Due.is("its font's", x.font(3, 9), 0);
        Due.throwing("it is gone", Due.STATE, () -> x.of(0, 65, 0));
        Due.is("its dots too", x.row(0, 65, 0, 0), 0);
        x.pin(0, 5);
        Due.is("another's of this CODE", x.of(0, 65, 3), 5);
    }

    private static void nothingWent() {
        for (int i = 0; i < 4; i++) {
            int what = i;
            Refused.answers("an empty shelf: drop(" + what + ")", 0, List.of(Scene.EMPTY), x -> x.drop(what));
        }
        for (int i = 2; i < 4; i++) {
            int what = i;
            Refused.answers("another ID: drop(" + what + ")", 0, Scene.WITHOUT_FONT_AT_HAND, x -> x.drop(what));
        }
        Refused.answers("another CODE: drop(3)", 0, List.of(DropTest::withoutGlyph), x -> x.drop(3));
        Refused.answers("again drop(3)", 0, List.of(DropTest::glyphGone), x -> x.drop(3));
        FontShelf x = Scene.IDLE.get();
        Due.is("drop(2)", x.drop(2), 1);
        Due.is("again drop(2)", x.drop(2), 0);
        Due.is("drop(0)", x.drop(0), 2);
        Due.is("again drop(0)", x.drop(0), 0);
    }

    private static FontShelf withoutGlyph() {
        FontShelf x = Scene.IDLE.get();
        x.hand(true, 254);
        return x;
    }

    private static FontShelf glyphGone() {
        FontShelf x = Scene.IDLE.get();
        Due.is("drop(3)", x.drop(3), 1);
        return x;
    }

    private static void anyOther() {
        for (int what : Make.outside(0, 3)) {
            Refused.throwing("drop(" + what + ")", Due.ARGUMENT, Scene.ALL, x -> x.drop(what));
        }
    }

    private static void throwsLoadingAway() {
        for (int what = 0; what < 4; what++) {
            FontShelf x = Make.withFonts(1);
            x.permanent(true);
            x.glyph(0, 0, 8, 8, 0);
            Due.is("drop(" + what + ")", x.drop(what), what == 0 || what == 2 ? 1 : 0);
            Due.is("loading after drop(" + what + ")", x.look(5), -1);
            Due.throwing("load() after drop(" + what + ")", Due.STATE, () -> x.load());
        }
        Shown.same("drop(3) of a glyph that is loaded and begun again",
            Refused.after(Scene.BUSY, x -> x.drop(3)), DropTest::glyphGone);
    }
}
