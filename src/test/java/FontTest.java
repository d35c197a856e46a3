import java.util.List;

/** Promise 12: font. */
public final class FontTest {
    public static void main(String[] args) {
        Due.sentence("Of font i of the shelf, in its order: w = 0 .. 6: its attributes", FontTest::attributes);
        Due.sentence("7: its ID", FontTest::ids);
        Due.sentence("8: 1 if it is PERMANENT", FontTest::permanence);
        Due.sentence("9: its glyphs", FontTest::glyphs);
        Due.sentence("IndexOutOfBoundsException if there is none such", FontTest::noFont);
        Due.sentence("IndexOutOfBoundsException if there is no such w", FontTest::noSuch);
        Due.end();
    }

    private static void attributes() {
        FontShelf x = new FontShelf();
        Make.font(x, 100, 1, 0, 2, 3, 4, -5, 6);
        Make.font(x, 99, Make.GREATEST_VALUE);
        Make.font(x, 98, Make.LEAST_VALUE);
        Make.attributesAre("the first", x, 0, 1, 0, 2, 3, 4, -5, 6);
        Make.attributesAre("greatest", x, 1, Make.GREATEST_VALUE);
        Make.attributesAre("least", x, 2, Make.LEAST_VALUE);
    }

    private static void ids() {
        Make.idsAre("least and greatest", Make.withFonts(32767, 0, 5), 32767, 0, 5);
        FontShelf x = Scene.FULL.get();
        Due.is("the first of 32", x.font(0, 7), 32);
        Due.is("the last of 32", x.font(31, 7), 1);
    }

    private static void permanence() {
        FontShelf x = Scene.FULL.get();
        Due.is("the last one is", x.font(31, 8), 1);
        Due.is("the one before is not", x.font(30, 8), 0);
        Due.is("the first one is not", x.font(0, 8), 0);
    }

    private static void glyphs() {
        FontShelf x = Make.withFonts(1, 2);
        Due.is("none", x.font(0, 9), 0);
        Make.blank(x, 1, 0, 0, 0);
        Due.is("one without dots", x.font(0, 9), 1);
        Make.blank(x, 1, 255, 1, 1);
        Due.is("two", x.font(0, 9), 2);
        Make.blank(x, 1, 255, 2, 2);
        Due.is("one of them anew", x.font(0, 9), 2);
        x.drop(3);
        Due.is("one went", x.font(0, 9), 1);
        Due.is("the other's", x.font(1, 9), 0);
    }

    private static void noFont() {
        for (int w = 0; w < 10; w++) {
            int of = w;
            for (int i : Make.outside(0, 31)) {
                Refused.throwing("font(" + i + ", " + of + ")", Due.INDEX, Scene.ALL, x -> x.font(i, of));
            }
            Refused.throwing("font(3, " + of + ") of 3", Due.INDEX, List.of(Scene.BUSY), x -> x.font(3, of));
            Refused.throwing("font(0, " + of + ") of none", Due.INDEX, List.of(Scene.EMPTY), x -> x.font(0, of));
        }
    }

    private static void noSuch() {
        for (int w : Make.outside(0, 9)) {
            for (int i : new int[] {0, 2, 3, 31, 32}) {
                Refused.throwing("font(" + i + ", " + w + ")", Due.INDEX, Scene.ALL, x -> x.font(i, w));
            }
        }
    }
}
