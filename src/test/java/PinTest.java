import java.util.List;
import java.util.function.Consumer;

/** Promise 10: pin. */
public final class PinTest {
    private static final int[] MIDDLE = {10, 1, 20, 30, 40, -5, 60};
    private static final int[] FIVE = {277, 0, 1200, 1400, 1, 3, 7};
    /** All that can be done to a shelf, but for a wish and another PIN. */
    private static final List<Consumer<FontShelf>> NO_WISH = List.of(
        x -> x.hand(false, 0), x -> x.hand(true, 0), x -> x.attribute(false, 0, 0, 1), x -> x.attribute(false, 1, 6, 1),
        x -> x.header(), x -> x.glyph(0, 0, 1, 1, 1), x -> x.bytes(-1, 8), x -> x.load(), x -> x.permanent(true),
        x -> x.drop(0), x -> x.drop(1), x -> x.drop(2), x -> x.drop(3), x -> x.chosen(0), x -> x.chosen(1),
        x -> x.font(2, 7), x -> x.of(0, 255, 0), x -> x.row(1, 255, 0, 0), x -> x.wish(0, 7), x -> x.look(0));

    public static void main(String[] args) {
        Due.sentence("Font which at hand is PINNED to an ID", PinTest::pinned);
        Due.sentence("and its WISH becomes that font's attributes", PinTest::wishBecomes);
        Due.sentence("its PIN going (with a wish, and with nothing else)", PinTest::goesWithWishAlone);
        Due.sentence("false if there is no such font", PinTest::noFont);
        Due.sentence("false if which is neither 0 nor 1", PinTest::noWhich);
        Due.end();
    }

    private static void pinned() {
        FontShelf x = Make.withFonts(0, 32767, 5);
        x.glyph(0, 0, 8, 8, 0);
        for (int which = 0; which < 2; which++) {
            for (int id : new int[] {0, 32767, 5, 0}) {
                Due.yes("pin(" + which + ", " + id + ")", x.pin(which, id));
                Due.is("PIN", x.wish(which, 7), id);
                Due.is("chosen", x.chosen(which), id);
            }
            Due.yes("to what it is already", x.pin(which, 0));
            Due.is("the other's PIN", x.wish(1 - which, 7), which == 0 ? -1 : 0);
        }
        Due.is("ID at hand", x.look(3), 5);
        Due.is("what is being loaded stays", x.look(5), 8);
        Make.idsAre("the shelf stays", x, 0, 32767, 5);
    }

    private static void wishBecomes() {
        for (int which = 0; which < 2; which++) {
            FontShelf x = new FontShelf();
            Make.font(x, 1, Make.LEAST_VALUE);
            Make.font(x, 2, MIDDLE);
            Make.font(x, 3, Make.GREATEST_VALUE);
            int[][] wants = {Make.LEAST_VALUE, MIDDLE, Make.GREATEST_VALUE};
            for (int id = 1; id <= 3; id++) {
                Due.yes("pin", x.pin(which, id));
                for (int w = 0; w < 7; w++) {
                    Due.is("wish(" + which + ", " + w + ")", x.wish(which, w), wants[id - 1][w]);
                    Due.is("the other's " + w, x.wish(1 - which, w), Make.FIRST_DRAFT[w]);
                    Due.is("the draft's " + w, x.wish(2, w), Make.GREATEST_VALUE[w]);
                }
            }
            x.attribute(true, which, 0, 277);
            Due.is("the font keeps its own", x.font(2, 0), 2047);
            x.hand(false, 3);
            x.drop(2);
            Due.is("the wish stays without it", x.wish(which, 3), 99999);
        }
    }

    private static void goesWithWishAlone() {
        for (int i = 0; i < NO_WISH.size(); i++) {
            FontShelf x = Scene.BUSY.get();
            x.pin(0, 5);
            x.pin(1, 5);
            NO_WISH.get(i).accept(x);
            for (int which = 0; which < 2; which++) {
                Due.is("PIN after call " + i, x.wish(which, 7), 5);
                for (int w = 0; w < 7; w++) {
                    Due.is("wish(" + which + ", " + w + ") after call " + i, x.wish(which, w), FIVE[w]);
                }
            }
            Make.font(x, 5, MIDDLE);
            Make.font(x, 6, FIVE);
            Due.is("chosen(0) when its font came again after call " + i, x.chosen(0), 5);
            Due.is("chosen(1) when its font came again after call " + i, x.chosen(1), 5);
        }
    }

    private static void noFont() {
        for (int which = 0; which < 2; which++) {
            int of = which;
            for (int id : new int[] {-1, 33, 32766, 32768, Integer.MIN_VALUE, Integer.MAX_VALUE}) {
                Refused.isFalse("pin(" + of + ", " + id + ")", Scene.ALL, x -> x.pin(of, id));
            }
            for (int id : new int[] {0, 1, 32767}) {
                Refused.isFalse("empty: pin(" + of + ", " + id + ")", List.of(Scene.EMPTY), x -> x.pin(of, id));
            }
            Refused.isFalse("it went: pin(" + of + ", 5)", List.of(PinTest::fiveGone), x -> x.pin(of, 5));
        }
    }

    private static FontShelf fiveGone() {
        FontShelf x = Scene.IDLE.get();
        x.pin(0, 5);
        x.drop(2);
        return x;
    }

    private static void noWhich() {
        for (int which : Make.NO_WHICH) {
            for (int id : new int[] {0, 1, 5, 33}) {
                Refused.isFalse("pin(" + which + ", " + id + ")", Scene.ALL, x -> x.pin(which, id));
            }
        }
    }
}
