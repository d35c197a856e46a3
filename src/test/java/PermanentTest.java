import java.util.List;
import java.util.function.Supplier;

/** Promise 8: permanent. */
public final class PermanentTest {
    public static void main(String[] args) {
        Due.sentence("The font of the ID at hand is PERMANENT from now on, or not: true", PermanentTest::turns);
        Due.sentence("false if it was so", PermanentTest::wasSo);
        Due.sentence("false if there is none", PermanentTest::noFont);
        Due.end();
    }

    private static void turns() {
        FontShelf x = Make.withFonts(1, 32767, 0);
        for (int id : new int[] {0, 32767}) {
            int i = id == 0 ? 2 : 1;
            x.hand(false, id);
            x.glyph(0, 0, 8, 8, 0);
            Due.yes("on", x.permanent(true));
            Due.is("on", x.font(i, 8), 1);
            Due.is("not another's", x.font(0, 8), 0);
            Due.yes("off", x.permanent(false));
            Due.is("off", x.font(i, 8), 0);
            Due.yes("on again", x.permanent(true));
            Due.is("what is being loaded stays", x.look(5), 8);
        }
        Make.idsAre("the order stays", x, 1, 32767, 0);
    }

    private static void wasSo() {
        List<Supplier<FontShelf>> off = List.of(Scene.BUSY, Scene.IDLE, Scene.BRIMFUL, PermanentTest::turnedOff);
        Refused.isFalse("off already", off, x -> x.permanent(false));
        Refused.isFalse("on already", List.of(Scene.PERMANENT_AT_HAND), x -> x.permanent(true));
    }

    private static FontShelf turnedOff() {
        FontShelf x = Scene.PERMANENT_AT_HAND.get();
        Due.yes("off", x.permanent(false));
        return x;
    }

    private static void noFont() {
        for (int i = 0; i < 2; i++) {
            boolean on = i == 1;
            Refused.isFalse("no font, " + on, Scene.WITHOUT_FONT_AT_HAND, x -> x.permanent(on));
        }
    }
}
