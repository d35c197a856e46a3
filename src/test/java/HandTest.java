/** Promise 2: hand. */
public final class HandTest {
    public static void main(String[] args) {
        limits();
        throwsLoadingAway();
        refusedLeavesAll();
        Due.end();
    }

    private static void limits() {
        FontShelf x = new FontShelf();
        for (int n : new int[] {0, 1, 255, 256, 32767}) {
            Due.yes("ID " + n, x.hand(false, n));
            Due.is("ID at hand", x.look(3), n);
            Due.is("CODE at hand", x.look(4), 0);
        }
        for (int n : new int[] {-1, 32768, Integer.MIN_VALUE, Integer.MAX_VALUE}) {
            Due.no("ID " + n, x.hand(false, n));
            Due.is("ID at hand after " + n, x.look(3), 32767);
        }
        for (int n : new int[] {0, 1, 254, 255}) {
            Due.yes("CODE " + n, x.hand(true, n));
            Due.is("CODE at hand", x.look(4), n);
            Due.is("ID at hand", x.look(3), 32767);
        }
        for (int n : new int[] {-1, 256, 32767, Integer.MIN_VALUE, Integer.MAX_VALUE}) {
            Due.no("CODE " + n, x.hand(true, n));
            Due.is("CODE at hand after " + n, x.look(4), 255);
        }
    }

    private static void throwsLoadingAway() {
        FontShelf x = Make.withFonts(0);
        x.glyph(0, 0, 8, 4, 0);
        x.hand(false, 0);
        Due.is("loading after the same ID", x.look(5), -1);
        x.glyph(0, 0, 8, 4, 0);
        x.hand(true, 0);
        Due.is("loading after the same CODE", x.look(5), -1);
        Due.throwing("load() after hand", Due.STATE, () -> x.load());
        Due.is("glyphs", x.look(1), 0);
    }

    private static void refusedLeavesAll() {
        FontShelf x = Make.withFonts(5);
        x.glyph(0, 0, 8, 4, 0);
        x.bytes(1, 1);
        Due.no("ID 32768", x.hand(false, 32768));
        Due.no("CODE 256", x.hand(true, 256));
        Due.is("still needed", x.look(5), 3);
        Due.is("load()", x.load(), 1);
    }
}
