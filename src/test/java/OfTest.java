/** Promise 13: of. */
public final class OfTest {
    public static void main(String[] args) {
        numbers();
        wrong();
        ofFontChosen();
        Due.end();
    }

    private static FontShelf one() {
        FontShelf x = Make.withFonts(3);
        x.hand(true, 255);
        x.glyph(-16384, 16383, 70, 3, 32767);
        x.bytes(0x8000_0000_0000_0001L, 8);
        x.bytes(0xFF, 1);
        x.load();
        return x;
    }

    private static void numbers() {
        FontShelf x = one();
        int[] want = {-16384, 16383, 70, 3, 32767, 2 + 6};
        for (int which = 0; which < 2; which++) {
            for (int w = 0; w < want.length; w++) {
                Due.is("of(" + which + ", 255, " + w + ")", x.of(which, 255, w), want[w]);
            }
        }
        x.glyph(0, 0, 128, 128, 0);
        for (int i = 0; i < 256; i++) {
            x.bytes(-1, 8);
        }
        x.load();
        Due.is("all are black", x.of(0, 255, 5), 128 * 128);
    }

    private static void wrong() {
        FontShelf x = one();
        FontShelf empty = new FontShelf();
        for (int n : new int[] {-1, 2, 6, Integer.MIN_VALUE, Integer.MAX_VALUE}) {
            Due.throwing("which " + n, Due.ARGUMENT, () -> x.of(n, 255, 0));
            Due.throwing("which " + n + ", no glyph", Due.ARGUMENT, () -> x.of(n, 5, 0));
            Due.throwing("which " + n + ", no font", Due.ARGUMENT, () -> empty.of(n, 5, 0));
        }
        for (int n : new int[] {-1, 6, Integer.MIN_VALUE, Integer.MAX_VALUE}) {
            Due.throwing("w " + n, Due.ARGUMENT, () -> x.of(0, 255, n));
            Due.throwing("w " + n + ", no glyph", Due.ARGUMENT, () -> x.of(0, 5, n));
            Due.throwing("w " + n + ", no font", Due.ARGUMENT, () -> empty.of(0, 5, n));
        }
        for (int n : new int[] {-1, 0, 254, 256, Integer.MIN_VALUE, Integer.MAX_VALUE}) {
            Due.throwing("code " + n, Due.STATE, () -> x.of(1, n, 5));
        }
        Due.throwing("no font", Due.STATE, () -> empty.of(0, 255, 0));
    }

    private static void ofFontChosen() {
        FontShelf x = one();
        Make.font(x, 4);
        Due.throwing("the other is chosen", Due.STATE, () -> x.of(0, 255, 0));
        x.pin(1, 3);
        Due.is("the one pinned", x.of(1, 255, 2), 70);
        Due.throwing("still the other", Due.STATE, () -> x.of(0, 255, 0));
    }
}
