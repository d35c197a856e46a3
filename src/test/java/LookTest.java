/** Promise 16: look. */
public final class LookTest {
    public static void main(String[] args) {
        FontShelf x = Make.withFonts(10, 11, 12);
        Make.blank(x, 10, 1, 9, 3);
        Make.blank(x, 10, 2, 0, 3);
        Make.blank(x, 12, 200, 128, 128);
        looks(x, 3, 3, 6 + 2048, 12, 200, -1);
        x.glyph(0, 0, 16, 2, 0);
        looks(x, 3, 3, 2054, 12, 200, 4);
        x.bytes(0, 3);
        looks(x, 3, 3, 2054, 12, 200, 1);
        x.bytes(0, 3);
        looks(x, 3, 3, 2054, 12, 200, 0);
        x.load();
        looks(x, 3, 3, 6 + 4, 12, 200, -1);
        x.drop(3);
        looks(x, 3, 2, 6, 12, 200, -1);
        x.hand(false, 10);
        x.drop(2);
        looks(x, 2, 0, 0, 10, 200, -1);
        for (int which : new int[] {-1, 6, 7, Integer.MIN_VALUE, Integer.MAX_VALUE}) {
            Due.is("look(" + which + ")", x.look(which), -1);
        }
        Due.end();
    }

    private static void looks(FontShelf x, int... want) {
        for (int which = 0; which < want.length; which++) {
            Due.is("look(" + which + ")", x.look(which), want[which]);
        }
    }
}
