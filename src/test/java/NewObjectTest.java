/** Promise 1: a new object, and what the terms say that there is at first. */
public final class NewObjectTest {
    public static void main(String[] args) {
        Due.sentence("An empty shelf", NewObjectTest::empty);
        Due.sentence("A DRAFT has ATTRIBUTES, at first 277, 0, 1000, 1200, 0, 0, 3", () -> attributes(2));
        Due.sentence("Each has a WISH, ATTRIBUTES like those of the first DRAFT", NewObjectTest::wishes);
        Due.sentence("an ID and a CODE at hand, at first 0 and 0", NewObjectTest::atHand);
        Due.sentence("NONE = -1", () -> Due.is("NONE", FontShelf.NONE, -1));
        Due.sentence("An empty shelf (whatever was done with others)", NewObjectTest::apart);
        Due.sentence("An object is used for at most 512 calls after it has been made", NewObjectTest::lastCall);
        Due.end();
    }

    private static void empty() {
        FontShelf x = new FontShelf();
        Due.is("fonts", x.look(0), 0);
        Due.is("glyphs", x.look(1), 0);
        Due.is("bytes", x.look(2), 0);
        Due.is("loading", x.look(5), -1);
        Due.is("chosen(0)", x.chosen(0), -1);
        Due.is("chosen(1)", x.chosen(1), -1);
        Due.is("row", x.row(0, 0, 0, 0), 0);
        Due.throwing("font(0, 0)", Due.INDEX, () -> x.font(0, 0));
        Due.throwing("of(0, 0, 0)", Due.STATE, () -> x.of(0, 0, 0));
        Due.throwing("glyph", Due.STATE, () -> x.glyph(0, 0, 0, 0, 0));
        Due.throwing("load", Due.STATE, () -> x.load());
        Due.no("bytes", x.bytes(0, 1));
        Due.no("permanent", x.permanent(true));
        Due.no("pin", x.pin(0, 0));
        for (int what = 0; what < 4; what++) {
            Due.is("drop(" + what + ")", x.drop(what), 0);
        }
    }

    private static void attributes(int which) {
        FontShelf x = new FontShelf();
        for (int w = 0; w < 7; w++) {
            Due.is("wish(" + which + ", " + w + ")", x.wish(which, w), Make.FIRST_DRAFT[w]);
        }
    }

    private static void wishes() {
        attributes(0);
        attributes(1);
        Due.is("PIN of 0", new FontShelf().wish(0, 7), -1);
        Due.is("PIN of 1", new FontShelf().wish(1, 7), -1);
    }

    private static void atHand() {
        FontShelf x = new FontShelf();
        Due.is("ID", x.look(3), 0);
        Due.is("ID as wish tells it", x.wish(2, 7), 0);
        Due.is("CODE", x.look(4), 0);
        x.header();
        Due.is("ID of the first font", x.font(0, 7), 0);
        Make.attributesAre("the first font", x, 0, Make.FIRST_DRAFT);
        x.glyph(1, 2, 3, 4, 5);
        x.load();
        Due.is("its glyph has the CODE 0", x.of(0, 0, 2), 3);
    }

    private static void apart() {
        FontShelf before = new FontShelf();
        for (int i = 0; i < Scene.ALL.size(); i++) {
            Scene.ALL.get(i).get();
        }
        Due.is("fonts of one that was made before", before.look(0), 0);
        for (int w = 0; w < 8; w++) {
            for (int which = 0; which < 3; which++) {
                int want = new FontShelf().wish(which, w);
                Due.is("its wish(" + which + ", " + w + ")", before.wish(which, w), want);
            }
        }
        empty();
        attributes(0);
        attributes(2);
    }

    private static void lastCall() {
        FontShelf x = new FontShelf();
        for (int call = 1; call <= 510; call++) {
            Due.yes("call " + call, x.hand(false, call));
        }
        Due.is("call 511", x.header(), 1);
        Due.is("call 512", x.chosen(0), 510);
    }
}
