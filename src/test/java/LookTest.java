/** Promise 16: look. */
public final class LookTest {
    public static void main(String[] args) {
        Due.sentence("which 0: fonts, 1: glyphs in all, 2: their bytes", LookTest::counts);
        Due.sentence("3: the ID at hand, 4: the CODE at hand", LookTest::atHand);
        Due.sentence("5: bytes that the glyph that is being loaded still needs", LookTest::needed);
        Due.sentence("NONE if none is", LookTest::noneIsLoaded);
        Due.sentence("NONE for any other which", LookTest::anyOther);
        Due.end();
    }

    private static void counts() {
        FontShelf x = Make.withFonts(10, 11, 12);
        are(x, 3, 0, 0);
        Make.blank(x, 10, 1, 9, 3);
        are(x, 3, 1, 6);
        Make.blank(x, 10, 2, 0, 128);
        are(x, 3, 2, 6);
        Make.blank(x, 12, 200, 128, 128);
        are(x, 3, 3, 6 + 2048);
        x.glyph(0, 0, 16, 2, 0);
        x.bytes(0, 3);
        are(x, 3, 3, 6 + 2048);
        x.load();
        are(x, 3, 3, 6 + 4);
        x.drop(3);
        are(x, 3, 2, 6);
        x.hand(false, 10);
        x.drop(2);
        are(x, 2, 0, 0);
        are(Scene.FULL.get(), 32, 2, 4 + 3);
        are(Scene.BRIMFUL.get(), 2, 10, 16384);
        are(new FontShelf(), 0, 0, 0);
    }

    private static void are(FontShelf x, int... want) {
        for (int which = 0; which < want.length; which++) {
            Due.is("look(" + which + ")", x.look(which), want[which]);
        }
    }

    private static void atHand() {
        FontShelf x = new FontShelf();
        int[][] hands = {{32767, 255}, {0, 0}, {255, 1}};
        for (int[] hand : hands) {
            x.hand(false, hand[0]);
            x.hand(true, hand[1]);
            Due.is("ID", x.look(3), hand[0]);
            Due.is("CODE", x.look(4), hand[1]);
        }
    }

    private static void needed() {
        FontShelf x = Make.withFonts(0);
        x.glyph(0, 0, 128, 128, 0);
        Due.is("the greatest", x.look(5), 2048);
        for (int came = 16; came <= 2048; came += 16) {
            x.bytes(came, 8);
            x.bytes(came, 8);
            Due.is("after " + came, x.look(5), 2048 - came);
        }
        FontShelf y = Make.withFonts(0);
        y.glyph(0, 0, 9, 2, 0);
        int[] still = {3, 2, 1, 0, 0};
        for (int left : still) {
            y.bytes(1, 1);
            Due.is("one by one", y.look(5), left);
        }
        y.glyph(0, 0, 0, 0, 0);
        Due.is("one that needs none", y.look(5), 0);
    }

    private static void noneIsLoaded() {
        Due.is("a new object", new FontShelf().look(5), -1);
        Due.is("none begun", Scene.IDLE.get().look(5), -1);
        FontShelf x = Scene.BUSY.get();
        Due.is("begun", x.look(5), 4);
        x.load();
        Due.is("loaded", x.look(5), -1);
    }

    private static void anyOther() {
        for (int which : Make.outside(0, 5)) {
            Refused.answers("look(" + which + ")", -1, Scene.ALL, x -> x.look(which));
        }
    }
}
