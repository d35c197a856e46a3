/** Promise 6: bytes. */
public final class BytesTest {
    public static void main(String[] args) {
        order();
        passedOver();
        beyondWidth();
        refused();
        Due.end();
    }

    private static void order() {
        long part = 0x8142_C324_99E7_7E55L;
        for (int n = 1; n <= 8; n++) {
            FontShelf x = Make.withFonts(0);
            x.glyph(0, 0, 8, 9, 0);
            Due.yes("bytes " + n, x.bytes(part, n));
            Due.is("still needed after " + n, x.look(5), 9 - n);
            Due.yes("one more", x.bytes(0x3C, 1));
            x.load();
            for (int j = 0; j < 9; j++) {
                long want = j < n ? part >>> (8 * (n - 1 - j)) : j == n ? 0x3C : 0;
                Due.is("n " + n + " row " + j, x.row(0, 0, j, 0), want << 56);
            }
        }
    }

    private static void passedOver() {
        FontShelf x = Make.withFonts(0);
        x.glyph(0, 0, 16, 1, 0);
        Due.yes("three for two", x.bytes(0x123456, 3));
        Due.is("still needed", x.look(5), 0);
        Due.yes("none needed", x.bytes(-1, 8));
        Due.is("still needed", x.look(5), 0);
        x.load();
        Due.is("row", x.row(0, 0, 0, 0), 0x1234L << 48);
        x.glyph(0, 0, 0, 128, 0);
        Due.yes("for a glyph without dots", x.bytes(-1, 8));
        Due.is("still needed", x.look(5), 0);
        Due.is("load()", x.load(), 1);
        Due.is("black", x.of(0, 0, 5), 0);
    }

    private static void beyondWidth() {
        for (int width = 1; width <= 128; width++) {
            FontShelf x = Make.withFonts(0);
            x.glyph(0, 0, width, 2, 0);
            for (int i = 0; i < 4; i++) {
                Due.yes("bytes", x.bytes(-1, 8));
            }
            x.load();
            Due.is("black of width " + width, x.of(0, 0, 5), 2 * width);
            for (int j = 0; j < 2; j++) {
                Due.is("width " + width, x.row(0, 0, j, 0), width >= 64 ? -1L : -1L << (64 - width));
                Due.is("width " + width, x.row(0, 0, j, 1), width <= 64 ? 0 : -1L << (128 - width));
            }
        }
    }

    private static void refused() {
        FontShelf x = Make.withFonts(0);
        Due.no("none is loaded", x.bytes(1, 1));
        x.glyph(0, 0, 8, 8, 0);
        for (int n : new int[] {0, -1, 9, 16, Integer.MIN_VALUE, Integer.MAX_VALUE}) {
            Due.no("n " + n, x.bytes(-1, n));
            Due.is("still needed", x.look(5), 8);
        }
        x.load();
        Due.is("black", x.of(0, 0, 5), 0);
        Due.no("loaded already", x.bytes(1, 1));
    }
}
