/** Promise 15: wish. */
public final class WishTest {
    public static void main(String[] args) {
        Due.sentence("Attribute w of the WISH of font which, or (for which 2) of the DRAFT", WishTest::attributes);
        Due.sentence("w = 7: its PIN (NONE without one", WishTest::pins);
        Due.sentence("for 2 the ID at hand)", WishTest::idAtHand);
        Due.sentence("IndexOutOfBoundsException if there is none such: which", WishTest::noWhich);
        Due.sentence("IndexOutOfBoundsException if there is none such: w", WishTest::noSuch);
        Due.end();
    }

    private static void attributes() {
        FontShelf x = new FontShelf();
        int[][] told = {Make.LEAST_VALUE, {2, 0, 3, 4, 5, 6, 7}, Make.GREATEST_VALUE};
        Make.wish(x, 0, told[0]);
        Make.wish(x, 1, told[1]);
        Make.font(x, 32767, told[2]);
        for (int which = 0; which < 3; which++) {
            for (int w = 0; w < 7; w++) {
                Due.is("wish(" + which + ", " + w + ")", x.wish(which, w), told[which][w]);
            }
        }
    }

    private static void pins() {
        FontShelf x = Make.withFonts(32767, 0);
        Due.is("none of 0", x.wish(0, 7), -1);
        Due.is("none of 1", x.wish(1, 7), -1);
        x.pin(1, 32767);
        Due.is("none of 0", x.wish(0, 7), -1);
        Due.is("the greatest ID", x.wish(1, 7), 32767);
        x.pin(0, 0);
        Due.is("the least ID", x.wish(0, 7), 0);
        x.drop(0);
        Due.is("without its font", x.wish(1, 7), 32767);
        x.attribute(true, 1, 0, 5);
        Due.is("it went with a wish", x.wish(1, 7), -1);
        Due.is("the other stays", x.wish(0, 7), 0);
    }

    private static void idAtHand() {
        FontShelf x = new FontShelf();
        for (int id : new int[] {32767, 0, 9}) {
            x.hand(false, id);
            Due.is("ID at hand", x.wish(2, 7), id);
        }
        x.hand(true, 8);
        Due.is("not the CODE", x.wish(2, 7), 9);
        x.hand(false, 32768);
        Due.is("after a refused one", x.wish(2, 7), 9);
    }

    private static void noWhich() {
        for (int which : Make.outside(0, 2)) {
            for (int i = 0; i < 8; i++) {
                int w = i;
                Refused.throwing("wish(" + which + ", " + w + ")", Due.INDEX, Scene.ALL, x -> x.wish(which, w));
            }
            Refused.throwing("wish(" + which + ", 8)", Due.INDEX, Scene.ALL, x -> x.wish(which, 8));
        }
    }

    private static void noSuch() {
        for (int w : Make.outside(0, 7)) {
            for (int i = 0; i < 3; i++) {
                int which = i;
                Refused.throwing("wish(" + which + ", " + w + ")", Due.INDEX, Scene.ALL, x -> x.wish(which, w));
            }
        }
    }
}
