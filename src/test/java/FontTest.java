/** Promise 12: font. */
public final class FontTest {
    public static void main(String[] args) {
        FontShelf x = new FontShelf();
        int[][] fonts = {{1, 0, 2, 3, 4, -7, 6}, {2047, 1, 57600, 99999, 32767, 7, 65535}, {0, 0, 1, 1, 0, 0, 0}};
        for (int i = 0; i < fonts.length; i++) {
            Make.font(x, 100 - i, fonts[i]);
        }
        Make.blank(x, 99, 0, 1, 1);
        Make.blank(x, 99, 255, 1, 1);
        x.permanent(true);
        for (int i = 0; i < fonts.length; i++) {
            for (int w = 0; w < 7; w++) {
                Due.is("font(" + i + ", " + w + ")", x.font(i, w), fonts[i][w]);
            }
            Due.is("ID", x.font(i, 7), 100 - i);
            Due.is("permanent", x.font(i, 8), i == 1 ? 1 : 0);
            Due.is("glyphs", x.font(i, 9), i == 1 ? 2 : 0);
        }
        for (int i : new int[] {-1, 3, 4, 32, Integer.MIN_VALUE, Integer.MAX_VALUE}) {
            Due.throwing("font(" + i + ", 0)", Due.INDEX, () -> x.font(i, 0));
            Due.throwing("font(" + i + ", 7)", Due.INDEX, () -> x.font(i, 7));
        }
        for (int w : new int[] {-1, 10, Integer.MIN_VALUE, Integer.MAX_VALUE}) {
            Due.throwing("font(0, " + w + ")", Due.INDEX, () -> x.font(0, w));
        }
        Due.end();
    }
}
