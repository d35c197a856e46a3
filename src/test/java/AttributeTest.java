/** Promise 3: attribute, and the ranges of the seven attributes. */
public final class AttributeTest {
    private static final String[] RANGES = {"SET 0 .. 2047", "SPACING 0 (even) or 1", "PITCH 1 .. 57600",
        "HEIGHT 1 .. 99999", "STYLE 0 .. 32767", "WEIGHT -7 .. 7", "FACE 0 .. 65535"};

    public static void main(String[] args) {
        for (int i = 0; i < RANGES.length; i++) {
            int w = i;
            Due.sentence(RANGES[w], () -> range(w));
            Due.sentence("false if there is no such value: " + RANGES[w], () -> noSuchValue(w));
        }
        Due.sentence("false if there is no such attribute", AttributeTest::noSuchAttribute);
        Due.sentence("or which is neither 0 nor 1", AttributeTest::noSuchWhich);
        Due.sentence("(it is not asked without wish)", AttributeTest::whichIsNotAsked);
        Due.sentence("its PIN going", AttributeTest::pinGoes);
        Due.sentence("Attribute w of the DRAFT", AttributeTest::draftAlone);
        Due.end();
    }

    private static int[] taken(int w) {
        int least = Make.LEAST_VALUE[w];
        int greatest = Make.GREATEST_VALUE[w];
        return new int[] {least, least + 1, greatest - 1, greatest};
    }

    private static void range(int w) {
        for (int which = 0; which < 3; which++) {
            FontShelf x = new FontShelf();
            for (int value : taken(w)) {
                Due.yes("value " + value, x.attribute(which < 2, which, w, value));
                onlyChanged(x, which, w, value);
            }
        }
        for (int value : taken(w)) {
            FontShelf x = new FontShelf();
            x.attribute(false, 0, w, value);
            x.header();
            Due.is("a font has it", x.font(0, w), value);
        }
    }

    private static void onlyChanged(FontShelf x, int which, int w, int value) {
        for (int other = 0; other < 3; other++) {
            for (int v = 0; v < 7; v++) {
                int want = other == which && v == w ? value : Make.FIRST_DRAFT[v];
                Due.is("wish(" + other + ", " + v + ")", x.wish(other, v), want);
            }
        }
    }

    private static void noSuchValue(int w) {
        for (int value : Make.outside(Make.LEAST_VALUE[w], Make.GREATEST_VALUE[w])) {
            String what = "attribute " + w + " = " + value;
            Refused.isFalse("draft's " + what, Scene.ALL, x -> x.attribute(false, 0, w, value));
            Refused.isFalse("first wish's " + what, Scene.ALL, x -> x.attribute(true, 0, w, value));
            Refused.isFalse("second wish's " + what, Scene.ALL, x -> x.attribute(true, 1, w, value));
        }
    }

    private static void noSuchAttribute() {
        for (int w : Make.outside(0, 6)) {
            for (int value = 0; value < 2; value++) {
                int to = value;
                Refused.isFalse("draft's attribute " + w, Scene.ALL, x -> x.attribute(false, 0, w, to));
                Refused.isFalse("first wish's attribute " + w, Scene.ALL, x -> x.attribute(true, 0, w, to));
                Refused.isFalse("second wish's attribute " + w, Scene.ALL, x -> x.attribute(true, 1, w, to));
            }
        }
    }

    private static void noSuchWhich() {
        for (int which : Make.NO_WHICH) {
            for (int i = 0; i < 7; i++) {
                int w = i;
                Refused.isFalse("which " + which, Scene.ALL, x -> x.attribute(true, which, w, 1));
            }
            Refused.isFalse("which " + which + " and no value", Scene.ALL, x -> x.attribute(true, which, 0, -1));
            Refused.isFalse("which " + which + " and w 7", Scene.ALL, x -> x.attribute(true, which, 7, 1));
        }
    }

    private static void whichIsNotAsked() {
        FontShelf x = new FontShelf();
        int value = 100;
        for (int which : new int[] {-1, 0, 1, 2, Integer.MIN_VALUE, Integer.MAX_VALUE}) {
            Due.yes("draft with which " + which, x.attribute(false, which, 0, ++value));
            onlyChanged(x, 2, 0, value);
            Refused.isFalse("no value with which " + which, Scene.ALL, y -> y.attribute(false, which, 0, 2048));
            Refused.isFalse("no attribute with which " + which, Scene.ALL, y -> y.attribute(false, which, 7, 1));
        }
    }

    private static void pinGoes() {
        for (int which = 0; which < 2; which++) {
            for (int w = 0; w < 7; w++) {
                FontShelf x = Make.withFonts(4);
                x.pin(0, 4);
                x.pin(1, 4);
                Due.yes("what it is already", x.attribute(true, which, w, Make.FIRST_DRAFT[w]));
                Due.is("PIN told", x.wish(which, 7), -1);
                Due.is("PIN of the other", x.wish(1 - which, 7), 4);
            }
        }
    }

    private static void draftAlone() {
        FontShelf x = Scene.BUSY.get();
        Due.yes("draft's", x.attribute(false, 0, 3, 77));
        Due.is("PIN stays", x.wish(0, 7), 32767);
        Due.is("what is being loaded stays", x.look(5), 4);
        Make.attributesAre("no font has it", x, 0, 10, 1, 20, 30, 40, -5, 60);
        Due.yes("a wish", x.attribute(true, 0, 3, 78));
        Due.is("what is being loaded stays", x.look(5), 4);
        Make.attributesAre("the font that was pinned keeps its own", x, 0, 10, 1, 20, 30, 40, -5, 60);
    }
}
