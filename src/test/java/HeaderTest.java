import java.util.List;

/** Promise 4: header, and what the shelf may have of fonts. */
public final class HeaderTest {
    public static void main(String[] args) {
        Due.sentence("A FONT has an ID 0 .. 32767", HeaderTest::ids);
        Due.sentence("A font with the DRAFT's attributes", HeaderTest::draftIsTaken);
        Due.sentence("not PERMANENT, without glyphs", HeaderTest::bare);
        Due.sentence("each ID once: comes behind all others, in place of one that had this ID", HeaderTest::inPlace);
        Due.sentence("in the order in which they came", HeaderTest::order);
        Due.sentence("how many fonts there are", HeaderTest::count);
        Due.sentence("IllegalStateException if there are 32 others", HeaderTest::full);
        Due.sentence("(A glyph that is being loaded is thrown away.)", HeaderTest::throwsLoadingAway);
        Due.end();
    }

    private static void ids() {
        FontShelf x = new FontShelf();
        int[] ids = {0, 32767, 1, 32766};
        for (int i = 0; i < ids.length; i++) {
            x.hand(false, ids[i]);
            Due.is("header()", x.header(), i + 1);
        }
        Make.idsAre("least and greatest", x, ids);
    }

    private static void draftIsTaken() {
        FontShelf x = new FontShelf();
        Make.font(x, 3, Make.LEAST_VALUE);
        Make.font(x, 2, Make.GREATEST_VALUE);
        Make.font(x, 1, 10, 1, 20, 30, 40, -5, 60);
        x.attribute(false, 0, 6, 61);
        Make.attributesAre("least", x, 0, Make.LEAST_VALUE);
        Make.attributesAre("greatest", x, 1, Make.GREATEST_VALUE);
        Make.attributesAre("a draft that goes on does not change it", x, 2, 10, 1, 20, 30, 40, -5, 60);
        Due.is("the draft stays as it was", x.wish(2, 0), 10);
    }

    private static void bare() {
        FontShelf x = Make.withFonts(1, 2);
        Make.blank(x, 2, 65, 8, 4);
        Make.blank(x, 1, 0, 8, 8);
        Make.blank(x, 1, 255, 8, 8);
        x.permanent(true);
        x.header();
        Due.is("ID", x.font(1, 7), 1);
        Due.is("PERMANENT", x.font(1, 8), 0);
        Due.is("its glyphs", x.font(1, 9), 0);
        Due.is("glyphs", x.look(1), 1);
        Due.is("bytes", x.look(2), 4);
        x.pin(0, 1);
        Due.throwing("glyph 0", Due.STATE, () -> x.of(0, 0, 0));
        Due.throwing("glyph 255", Due.STATE, () -> x.of(0, 255, 0));
        Due.yes("it can be made permanent again", x.permanent(true));
    }

    private static void inPlace() {
        int[][] after = {{2, 3, 1}, {1, 3, 2}, {1, 2, 3}};
        for (int id = 1; id <= 3; id++) {
            FontShelf x = Make.withFonts(1, 2, 3);
            x.hand(false, id);
            x.attribute(false, 0, 0, 5);
            Due.is("header() again", x.header(), 3);
            Make.idsAre("again " + id, x, after[id - 1]);
            Due.is("the new draft", x.font(2, 0), 5);
            Due.is("another's", x.font(0, 0), 277);
        }
    }

    private static void order() {
        FontShelf x = Make.withFonts(9, 3, 32767, 0, 5);
        Make.idsAre("as they came", x, 9, 3, 32767, 0, 5);
        x.hand(false, 32767);
        x.drop(2);
        Make.idsAre("without one", x, 9, 3, 0, 5);
        x.header();
        Make.idsAre("it came again", x, 9, 3, 0, 5, 32767);
    }

    private static void count() {
        FontShelf x = new FontShelf();
        Due.is("the first", x.header(), 1);
        Due.is("the same again", x.header(), 1);
        x.hand(false, 1);
        Due.is("the second", x.header(), 2);
        x.drop(2);
        Due.is("again after it went", x.header(), 2);
        x.drop(0);
        Due.is("after all went", x.header(), 1);
    }

    private static void full() {
        FontShelf x = new FontShelf();
        for (int id = 0; id < 32; id++) {
            x.hand(false, id);
            Due.is("with " + id + " others", x.header(), id + 1);
        }
        x.hand(false, 31);
        Due.is("31 others, the last again", x.header(), 32);
        x.hand(false, 0);
        Due.is("31 others, the first again", x.header(), 32);
        Due.is("now the first", x.font(0, 7), 1);
        Due.is("now the last", x.font(31, 7), 0);
        x.hand(false, 32);
        Due.throwing("32 others", Due.STATE, () -> x.header());
        x.hand(false, 16);
        Due.is("one goes", x.drop(2), 1);
        x.hand(false, 32);
        Due.is("31 others again", x.header(), 32);
        Refused.throwing("header() with 32 others", Due.STATE, List.of(Scene.FULL, HeaderTest::fullFarAway),
            y -> y.header());
    }

    private static FontShelf fullFarAway() {
        FontShelf x = Scene.FULL.get();
        x.hand(false, 32767);
        return x;
    }

    private static void throwsLoadingAway() {
        FontShelf x = Scene.BUSY.get();
        Due.is("header()", x.header(), 3);
        Due.is("loading", x.look(5), -1);
        Due.no("bytes", x.bytes(0, 1));
        Due.throwing("load()", Due.STATE, () -> x.load());
        Due.is("its glyphs", x.font(2, 9), 0);
    }
}
