/** Promise 2: hand. */
public final class HandTest {
    public static void main(String[] args) {
        Due.sentence("The ID (or with code the CODE) at hand: true", HandTest::taken);
        Due.sentence("false if n is not 0 .. 32767", HandTest::noId);
        Due.sentence("false if n is not (0 .. 255)", HandTest::noCode);
        Due.sentence("What was being loaded of a glyph is thrown away", HandTest::throwsLoadingAway);
        Due.end();
    }

    private static void taken() {
        FontShelf x = new FontShelf();
        for (int n : new int[] {1, 255, 256, 32766, 32767, 0, 9}) {
            Due.yes("ID " + n, x.hand(false, n));
            Due.is("ID at hand", x.look(3), n);
            Due.is("CODE at hand", x.look(4), 0);
        }
        for (int n : new int[] {1, 254, 255, 0, 8}) {
            Due.yes("CODE " + n, x.hand(true, n));
            Due.is("CODE at hand", x.look(4), n);
            Due.is("ID at hand", x.look(3), 9);
        }
    }

    private static void noId() {
        for (int n : Make.outside(0, 32767)) {
            Refused.isFalse("hand(false, " + n + ")", Scene.ALL, x -> x.hand(false, n));
        }
    }

    private static void noCode() {
        for (int n : Make.outside(0, 255)) {
            Refused.isFalse("hand(true, " + n + ")", Scene.ALL, x -> x.hand(true, n));
        }
        Refused.isFalse("hand(true, 32767)", Scene.ALL, x -> x.hand(true, 32767));
    }

    private static void throwsLoadingAway() {
        int[][] hands = {{0, 5}, {0, 0}, {0, 6}, {1, 255}, {1, 0}};
        for (int[] hand : hands) {
            String what = "hand(" + (hand[0] == 1) + ", " + hand[1] + ")";
            FontShelf x = Scene.BUSY.get();
            Due.is("needed before", x.look(5), 4);
            Due.yes(what, x.hand(hand[0] == 1, hand[1]));
            Due.is("loading after " + what, x.look(5), -1);
            Due.no("bytes after " + what, x.bytes(0, 1));
            Due.throwing("load() after " + what, Due.STATE, () -> x.load());
            Due.is("glyphs after " + what, x.look(1), 3);
        }
        Shown.same("hand(false, 5)", Refused.after(Scene.BUSY, x -> x.hand(false, 5) ? 1 : 0), Scene.IDLE);
        Shown.same("hand(true, 255)", Refused.after(Scene.BUSY, x -> x.hand(true, 255) ? 1 : 0), Scene.IDLE);
    }
}
