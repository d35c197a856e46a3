import java.util.List;

/** Promise 14: row. */
public final class RowTest {
    // 64 times some of these wraps around to a dot that there is.
    private static final int[] FAR = {2, -1, 3, -2, 1 << 26, -(1 << 26), 1 << 30, (1 << 26) + 1, (1 << 25) - 1,
        Integer.MIN_VALUE, Integer.MIN_VALUE + 1, Integer.MAX_VALUE};

    public static void main(String[] args) {
        Due.sentence("Row j of that glyph: its dots 64 * k .. 64 * k + 63", RowTest::greatest);
        Due.sentence("as the bits of a long, black 1, the first one highest", RowTest::bits);
        Due.sentence("0 where there are none: rows", RowTest::noRow);
        Due.sentence("0 where there are none: dots of a row", RowTest::noDots);
        Due.sentence("(also without such a glyph)", RowTest::noGlyph);
        Due.end();
    }

    private static FontShelf with(int width, int depth, long... parts) {
        FontShelf x = Make.withFonts(3);
        Make.dots(x, width, depth, parts);
        return x;
    }

    private static long part(int n) {
        return 0x0123_4567_89AB_CDEFL * (2 * n + 1);
    }

    private static void greatest() {
        FontShelf x = Make.withFonts(3);
        x.glyph(0, 0, 128, 128, 0);
        for (int n = 0; n < 256; n++) {
            x.bytes(part(n), 8);
        }
        x.load();
        for (int j : new int[] {0, 1, 63, 64, 126, 127}) {
            for (int k = 0; k < 2; k++) {
                Due.is("row(0, 0, " + j + ", " + k + ")", x.row(0, 0, j, k), part(2 * j + k));
                Due.is("row(1, 0, " + j + ", " + k + ")", x.row(1, 0, j, k), part(2 * j + k));
            }
        }
        for (int k = 0; k < 2; k++) {
            Due.is("row -1", x.row(0, 0, -1, k), 0);
            Due.is("row 128", x.row(0, 0, 128, k), 0);
        }
    }

    private static void bits() {
        FontShelf x = with(10, 3, 0xFFFF_0040_A5C0_0000L);
        Due.is("row 0", x.row(0, 0, 0, 0), 0xFFC0L << 48);
        Due.is("row 1", x.row(0, 0, 1, 0), 0x0040L << 48);
        Due.is("row 2", x.row(0, 0, 2, 0), 0xA5C0L << 48);
        FontShelf y = with(72, 2, 0x1122_3344_5566_7788L, 0x99AA_BBCC_DDEE_FF11L, 0x2200_0000_0000_0000L);
        Due.is("72, 0, 0", y.row(0, 0, 0, 0), 0x1122_3344_5566_7788L);
        Due.is("72, 0, 1", y.row(0, 0, 0, 1), 0x99L << 56);
        Due.is("72, 1, 0", y.row(0, 0, 1, 0), 0xAABB_CCDD_EEFF_1122L);
        Due.is("72, 1, 1", y.row(0, 0, 1, 1), 0);
        FontShelf z = with(1, 1, Long.MIN_VALUE);
        Due.is("the only dot", z.row(0, 0, 0, 0), Long.MIN_VALUE);
        FontShelf last = with(64, 1, 1L);
        Due.is("dot 63", last.row(0, 0, 0, 0), 1);
        Due.is("behind it", last.row(0, 0, 0, 1), 0);
        FontShelf next = with(65, 1, 0L, Long.MIN_VALUE);
        Due.is("before dot 64", next.row(0, 0, 0, 0), 0);
        Due.is("dot 64", next.row(0, 0, 0, 1), Long.MIN_VALUE);
    }

    private static void noRow() {
        FontShelf x = with(128, 2, -1L, -1L, -1L, -1L);
        for (int k = 0; k < 2; k++) {
            Due.is("row 0", x.row(0, 0, 0, k), -1);
            Due.is("row 1", x.row(0, 0, 1, k), -1);
            for (int j : FAR) {
                Due.is("row " + j, x.row(0, 0, j, k), 0);
            }
        }
        FontShelf none = with(128, 0, -1L);
        Due.is("no DEPTH", none.row(0, 0, 0, 0), 0);
        for (int j : Make.outside(0, 127)) {
            Refused.answers("row " + j, 0, Scene.ALL, y -> y.row(0, 0, j, 0));
        }
    }

    private static void noDots() {
        FontShelf x = with(128, 2, -1L, -1L, -1L, -1L);
        FontShelf narrow = with(64, 2, -1L, -1L);
        FontShelf none = with(0, 5, -1L);
        for (int j = 0; j < 2; j++) {
            Due.is("64 wide, from dot 0", narrow.row(0, 0, j, 0), -1);
            Due.is("64 wide, from dot 64", narrow.row(0, 0, j, 1), 0);
            Due.is("no WIDTH", none.row(0, 0, j, 0), 0);
            for (int k : FAR) {
                Due.is("128 wide, k " + k, x.row(0, 0, j, k), 0);
                Due.is("64 wide, k " + k, narrow.row(0, 0, j, k), 0);
                Due.is("no WIDTH, k " + k, none.row(0, 0, j, k), 0);
            }
        }
        for (int k : FAR) {
            Refused.answers("k " + k, 0, Scene.ALL, y -> y.row(0, 0, 0, k));
        }
    }

    private static void noGlyph() {
        Refused.answers("no font", 0, List.of(Scene.EMPTY), x -> x.row(0, 0, 0, 0));
        Due.is("there is one", Scene.BUSY.get().row(0, 0, 0, 0), 0xFF80L << 48);
        for (int which : Make.NO_WHICH) {
            Refused.answers("which " + which, 0, Scene.ALL, x -> x.row(which, 0, 0, 0));
        }
        for (int code : Make.outside(0, 255)) {
            Refused.answers("code " + code, 0, Scene.ALL, x -> x.row(0, code, 0, 0));
        }
        for (int code : new int[] {1, 65, 254, 255}) {
            Refused.answers("code " + code, 0, List.of(Scene.BUSY), x -> x.row(0, code, 0, 0));
        }
        FontShelf x = Make.withFonts(0);
        x.glyph(0, 0, 8, 1, 1);
        x.bytes(-1, 1);
        Due.is("only begun", x.row(0, 0, 0, 0), 0);
        x.load();
        Due.is("loaded", x.row(0, 0, 0, 0), 0xFFL << 56);
        x.drop(3);
        Due.is("it went", x.row(0, 0, 0, 0), 0);
    }
}
