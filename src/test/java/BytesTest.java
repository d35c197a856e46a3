import java.util.List;

/** Promise 6: bytes, and how the dots of a glyph stand in them. */
public final class BytesTest {
    private static final long[] PARTS = {0x8142_C324_99E7_7E55L, Long.MIN_VALUE, Long.MAX_VALUE, -1L, 0L, 1L};

    public static void main(String[] args) {
        Due.sentence("The n lowest bytes of part, the highest of them first", BytesTest::order);
        Due.sentence("bit 7 of each being its first dot", BytesTest::firstDot);
        Due.sentence("bits beyond the WIDTH are 0", BytesTest::beyondWidth);
        Due.sentence("(what it does not need any more is passed over)", BytesTest::passedOver);
        Due.sentence("false if n is not 1 .. 8", BytesTest::noSuchNumber);
        Due.sentence("false if none is", BytesTest::noneIsLoaded);
        Due.end();
    }

    private static void order() {
        for (long part : PARTS) {
            for (int n = 1; n <= 8; n++) {
                FontShelf x = Make.withFonts(0);
                x.glyph(0, 0, 8, 10, 0);
                Due.yes("the first", x.bytes(0x3C, 1));
                Due.yes("n " + n, x.bytes(part, n));
                Due.is("still needed after n " + n, x.look(5), 9 - n);
                Due.yes("one more", x.bytes(0xA5, 1));
                x.load();
                for (int j = 0; j < 10; j++) {
                    long want = j == 0 ? 0x3C : j <= n ? part >>> (8 * (n - j)) : j == n + 1 ? 0xA5 : 0;
                    Due.is("part " + part + " n " + n + " row " + j, x.row(0, 0, j, 0), want << 56);
                }
            }
        }
    }

    private static void firstDot() {
        FontShelf x = Make.withFonts(0);
        Make.dots(x, 8, 8, 0x8040_2010_0804_0201L);
        for (int j = 0; j < 8; j++) {
            Due.is("dot " + j, x.row(0, 0, j, 0), Long.MIN_VALUE >>> j);
        }
        Make.dots(x, 24, 1, 0x8000_0100_0000_0000L);
        Due.is("three bytes of a row", x.row(0, 0, 0, 0), 0x8000_01L << 40);
    }

    private static void beyondWidth() {
        for (int width = 0; width <= 128; width++) {
            FontShelf x = Make.withFonts(0);
            x.glyph(0, 0, width, 2, 0);
            for (int i = 0; i < 4; i++) {
                Due.yes("bytes", x.bytes(-1, 8));
            }
            x.load();
            Due.is("black of width " + width, x.of(0, 0, 5), 2 * width);
            for (int j = 0; j < 2; j++) {
                Due.is("width " + width, x.row(0, 0, j, 0), firstDots(width));
                Due.is("width " + width + " on", x.row(0, 0, j, 1), firstDots(width - 64));
            }
        }
    }

    private static long firstDots(int n) {
        long dots = 0;
        for (int i = 0; i < 64 && i < n; i++) {
            dots |= Long.MIN_VALUE >>> i;
        }
        return dots;
    }

    private static void passedOver() {
        FontShelf x = Make.withFonts(0);
        x.glyph(0, 0, 16, 1, 0);
        Due.yes("two for two", x.bytes(0x3456, 2));
        Due.is("still needed", x.look(5), 0);
        Due.yes("one for none", x.bytes(-1, 1));
        Due.yes("eight for none", x.bytes(-1, 8));
        Due.is("still needed", x.look(5), 0);
        x.load();
        Due.is("row", x.row(0, 0, 0, 0), 0x3456L << 48);
        x.glyph(0, 0, 16, 1, 0);
        Due.yes("three for two", x.bytes(0x123456, 3));
        Due.is("still needed", x.look(5), 0);
        x.load();
        Due.is("the first two", x.row(0, 0, 0, 0), 0x1234L << 48);
        for (int side = 0; side < 2; side++) {
            x.glyph(0, 0, 128 * side, 128 - 128 * side, 0);
            Due.yes("for a glyph without dots", x.bytes(-1, 8));
            Due.is("still needed", x.look(5), 0);
            Due.is("load()", x.load(), 1);
            Due.is("black", x.of(0, 0, 5), 0);
        }
    }

    private static void noSuchNumber() {
        for (int n : new int[] {0, 9, -1, 16, 256 + 8, Integer.MIN_VALUE, Integer.MAX_VALUE}) {
            Refused.isFalse("n " + n, Scene.ALL, x -> x.bytes(-1, n));
        }
    }

    private static void noneIsLoaded() {
        for (int i = 1; i <= 8; i++) {
            int n = i;
            Refused.isFalse("none begun, n " + n, Scene.NONE_BEING_LOADED, x -> x.bytes(-1, n));
            Refused.isFalse("loaded already, n " + n, List.of(BytesTest::loaded), x -> x.bytes(-1, n));
        }
    }

    private static FontShelf loaded() {
        FontShelf x = Scene.BUSY.get();
        x.load();
        return x;
    }
}
