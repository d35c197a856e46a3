/** Promise 15: wish. */
public final class WishTest {
    public static void main(String[] args) {
        FontShelf x = new FontShelf();
        int[][] told = {{1, 1, 2, 3, 4, -5, 6}, {2, 0, 3, 4, 5, 6, 7}, {3, 1, 4, 5, 6, 7, 8}};
        Make.wish(x, 0, told[0]);
        Make.wish(x, 1, told[1]);
        Make.font(x, 32767, told[2]);
        for (int which = 0; which < 3; which++) {
            for (int w = 0; w < 7; w++) {
                Due.is("wish(" + which + ", " + w + ")", x.wish(which, w), told[which][w]);
            }
        }
        Due.is("no pin", x.wish(0, 7), -1);
        Due.is("no pin", x.wish(1, 7), -1);
        Due.is("ID at hand", x.wish(2, 7), 32767);
        x.pin(1, 32767);
        x.hand(false, 9);
        Due.is("no pin", x.wish(0, 7), -1);
        Due.is("pin", x.wish(1, 7), 32767);
        Due.is("ID at hand", x.wish(2, 7), 9);
        x.drop(0);
        Due.is("pin without its font", x.wish(1, 7), 32767);
        for (int which : new int[] {-1, 3, Integer.MIN_VALUE, Integer.MAX_VALUE}) {
            Due.throwing("wish(" + which + ", 0)", Due.INDEX, () -> x.wish(which, 0));
            Due.throwing("wish(" + which + ", 7)", Due.INDEX, () -> x.wish(which, 7));
        }
        for (int w : new int[] {-1, 8, Integer.MIN_VALUE, Integer.MAX_VALUE}) {
            for (int which = 0; which < 3; which++) {
                int of = which;
                Due.throwing("wish(" + which + ", " + w + ")", Due.INDEX, () -> x.wish(of, w));
            }
        }
        Due.end();
    }
}
