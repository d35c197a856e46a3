/** Promise 14: row. */
public final class RowTest {
    private static final int[] FAR = {Integer.MIN_VALUE, Integer.MAX_VALUE, 1 << 26, 1 << 30, -(1 << 26)};

    public static void main(String[] args) {
        wide();
        narrow();
        noneThere();
        Due.end();
    }

    private static FontShelf with(int width, int depth, long... parts) {
        FontShelf x = Make.withFonts(3);
        x.glyph(0, 0, width, depth, 0);
        for (long part : parts) {
            x.bytes(part, 8);
        }
        x.load();
        return x;
    }

    private static void wide() {
        long[] parts = {0x0123456789ABCDEFL, 0x8000000000000001L, -1L, 0x7FFFFFFFFFFFFFFEL};
        FontShelf x = with(128, 2, parts);
        for (int i = 0; i < parts.length; i++) {
            Due.is("part " + i, x.row(0, 0, i / 2, i % 2), parts[i]);
            Due.is("part " + i, x.row(1, 0, i / 2, i % 2), parts[i]);
        }
        Due.is("beyond the depth", x.row(0, 0, 2, 0), 0);
        Due.is("before the first row", x.row(0, 0, -1, 0), 0);
        Due.is("beyond the width", x.row(0, 0, 0, 2), 0);
        Due.is("before the first dot", x.row(0, 0, 1, -1), 0);
        for (int far : FAR) {
            Due.is("row " + far, x.row(0, 0, far, 0), 0);
            Due.is("dots from " + far, x.row(0, 0, 0, far), 0);
        }
    }

    private static void narrow() {
        FontShelf x = with(10, 3, 0xFFFF_0040_A5C0_0000L);
        Due.is("row 0", x.row(0, 0, 0, 0), 0xFFC0L << 48);
        Due.is("row 1", x.row(0, 0, 1, 0), 0x0040L << 48);
        Due.is("row 2", x.row(0, 0, 2, 0), 0xA5C0L << 48);
        Due.is("beyond the width", x.row(0, 0, 0, 1), 0);
        FontShelf y = with(72, 2, 0x1122334455667788L, 0x99AABBCCDDEEFF11L, 0x2200000000000000L);
        Due.is("72, 0, 0", y.row(0, 0, 0, 0), 0x1122334455667788L);
        Due.is("72, 0, 1", y.row(0, 0, 0, 1), 0x99L << 56);
        Due.is("72, 1, 0", y.row(0, 0, 1, 0), 0xAABBCCDDEEFF1122L);
        Due.is("72, 1, 1", y.row(0, 0, 1, 1), 0);
    }

    private static void noneThere() {
        Due.is("no font", new FontShelf().row(0, 0, 0, 0), 0);
        FontShelf x = with(64, 1, -1L);
        for (int which : new int[] {-1, 2, Integer.MIN_VALUE, Integer.MAX_VALUE}) {
            Due.is("which " + which, x.row(which, 0, 0, 0), 0);
        }
        for (int code : new int[] {-1, 1, 255, 256, Integer.MIN_VALUE, Integer.MAX_VALUE}) {
            Due.is("code " + code, x.row(0, code, 0, 0), 0);
        }
        Due.is("no width", with(0, 5, -1L).row(0, 0, 0, 0), 0);
        Due.is("no depth", with(128, 0, -1L).row(0, 0, 0, 0), 0);
    }
}
