/** Promise 10: pin. */
public final class PinTest {
    private static final int[] MIDDLE = {10, 1, 20, 30, 40, -5, 60};

    public static void main(String[] args) {
        takesAttributes();
        staysByNumber();
        refused();
        Due.end();
    }

    private static FontShelf three() {
        FontShelf x = new FontShelf();
        Make.font(x, 1);
        Make.font(x, 2, MIDDLE);
        Make.font(x, 0, 277, 0, 1000, 1200, 0, 0, 3);
        return x;
    }

    private static void takesAttributes() {
        FontShelf x = three();
        x.glyph(0, 0, 8, 8, 0);
        Due.yes("pin(1, 2)", x.pin(1, 2));
        for (int w = 0; w < MIDDLE.length; w++) {
            Due.is("wish(1, " + w + ")", x.wish(1, w), MIDDLE[w]);
        }
        Due.is("its pin", x.wish(1, 7), 2);
        Due.is("pin of the other", x.wish(0, 7), -1);
        Due.is("wish of the other", x.wish(0, 0), 277);
        Due.is("chosen(1)", x.chosen(1), 2);
        Due.is("chosen(0)", x.chosen(0), 0);
        Due.yes("pin(0, 0)", x.pin(0, 0));
        Due.is("its pin", x.wish(0, 7), 0);
        Due.is("what is loaded stays", x.look(5), 8);
        x.attribute(true, 1, 0, 277);
        Due.is("the font keeps its own", x.font(1, 0), 10);
    }

    private static void staysByNumber() {
        FontShelf x = three();
        x.pin(0, 2);
        x.hand(false, 2);
        x.drop(2);
        Due.is("pin without its font", x.wish(0, 7), 2);
        Due.is("chosen without it", x.chosen(0), 0);
        x.header();
        Due.is("wish stays", x.wish(0, 0), 10);
        Due.is("chosen when it came again", x.chosen(0), 2);
        x.permanent(true);
        Due.is("a permanent one too", x.chosen(0), 2);
    }

    private static void refused() {
        FontShelf x = three();
        x.pin(0, 2);
        for (int id : new int[] {-1, 3, 32767, 32768, Integer.MIN_VALUE, Integer.MAX_VALUE}) {
            Due.no("pin(0, " + id + ")", x.pin(0, id));
        }
        for (int which : new int[] {-1, 2, Integer.MIN_VALUE, Integer.MAX_VALUE}) {
            Due.no("pin(" + which + ", 1)", x.pin(which, 1));
        }
        Due.is("pin", x.wish(0, 7), 2);
        Due.is("wish", x.wish(0, 0), 10);
        Due.is("draft", x.wish(2, 0), 277);
        x.drop(0);
        Due.no("no font any more", x.pin(0, 2));
        Due.is("pin", x.wish(0, 7), 2);
    }
}
