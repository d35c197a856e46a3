/** Promise 1: a new object is an empty shelf, and no object has anything of another one's. */
public final class NewObjectTest {
    private static final int[] FIRST = {277, 0, 1000, 1200, 0, 0, 3};

    public static void main(String[] args) {
        isNew(new FontShelf());
        useEverything(new FontShelf());
        isNew(new FontShelf());
        Due.is("NONE", FontShelf.NONE, -1);
        Due.end();
    }

    private static void isNew(FontShelf x) {
        int[] looks = {0, 0, 0, 0, 0, -1};
        for (int i = 0; i < looks.length; i++) {
            Due.is("new look(" + i + ")", x.look(i), looks[i]);
        }
        for (int which = 0; which < 3; which++) {
            for (int w = 0; w < FIRST.length; w++) {
                Due.is("new wish(" + which + ", " + w + ")", x.wish(which, w), FIRST[w]);
            }
            Due.is("new wish(" + which + ", 7)", x.wish(which, 7), which == 2 ? 0 : -1);
        }
        Due.is("new chosen(0)", x.chosen(0), -1);
        Due.is("new chosen(1)", x.chosen(1), -1);
        Due.throwing("new font(0, 0)", Due.INDEX, () -> x.font(0, 0));
        Due.throwing("new of(0, 0, 0)", Due.STATE, () -> x.of(0, 0, 0));
        Due.is("new row", x.row(0, 0, 0, 0), 0);
    }

    private static void useEverything(FontShelf x) {
        Make.font(x, 7, 10, 1, 2, 3, 4, 5, 6);
        Make.blank(x, 7, 8, 9, 10);
        x.pin(0, 7);
        Make.wish(x, 1, 11, 1, 12, 13, 14, -5, 16);
        x.glyph(0, 0, 1, 1, 1);
    }
}
