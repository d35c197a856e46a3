/** Promise 3: attribute. */
public final class AttributeTest {
    private static final int[] LEAST = {0, 0, 1, 1, 0, -7, 0};
    private static final int[] MOST = {2047, 1, 57600, 99999, 32767, 7, 65535};

    public static void main(String[] args) {
        for (int w = 0; w < LEAST.length; w++) {
            draftLimits(w);
            wishLimits(0, w);
            wishLimits(1, w);
        }
        noSuchAttribute();
        noSuchWhich();
        pinGoes();
        loadingStays();
        Due.end();
    }

    private static void draftLimits(int w) {
        FontShelf x = new FontShelf();
        for (int value : new int[] {LEAST[w], MOST[w]}) {
            Due.yes("draft " + w + " = " + value, x.attribute(false, Integer.MIN_VALUE, w, value));
            onlyChanged(x, 2, w, value);
        }
        for (int value : new int[] {LEAST[w] - 1, MOST[w] + 1, Integer.MIN_VALUE, Integer.MAX_VALUE}) {
            Due.no("draft " + w + " = " + value, x.attribute(false, 0, w, value));
            onlyChanged(x, 2, w, MOST[w]);
        }
    }

    private static void wishLimits(int which, int w) {
        FontShelf x = new FontShelf();
        for (int value : new int[] {LEAST[w], MOST[w]}) {
            Due.yes("wish " + which + " " + w + " = " + value, x.attribute(true, which, w, value));
            onlyChanged(x, which, w, value);
        }
        for (int value : new int[] {LEAST[w] - 1, MOST[w] + 1, Integer.MIN_VALUE, Integer.MAX_VALUE}) {
            Due.no("wish " + which + " " + w + " = " + value, x.attribute(true, which, w, value));
            onlyChanged(x, which, w, MOST[w]);
        }
    }

    private static void onlyChanged(FontShelf x, int which, int w, int value) {
        FontShelf fresh = new FontShelf();
        for (int other = 0; other < 3; other++) {
            for (int v = 0; v < 7; v++) {
                long want = other == which && v == w ? value : fresh.wish(other, v);
                Due.is("wish(" + other + ", " + v + ")", x.wish(other, v), want);
            }
        }
    }

    private static void noSuchAttribute() {
        FontShelf x = new FontShelf();
        for (int w : new int[] {-1, 7, 8, Integer.MIN_VALUE, Integer.MAX_VALUE}) {
            Due.no("draft attribute " + w, x.attribute(false, 0, w, 1));
            Due.no("wish attribute " + w, x.attribute(true, 0, w, 1));
        }
    }

    private static void noSuchWhich() {
        FontShelf x = new FontShelf();
        for (int which : new int[] {-1, 2, 3, Integer.MIN_VALUE, Integer.MAX_VALUE}) {
            Due.no("which " + which, x.attribute(true, which, 0, 5));
            Due.is("draft", x.wish(2, 0), 277);
            Due.yes("draft with which " + which, x.attribute(false, which, 6, 3));
        }
    }

    private static void pinGoes() {
        FontShelf x = Make.withFonts(4);
        x.pin(0, 4);
        x.pin(1, 4);
        Due.no("refused wish", x.attribute(true, 0, 0, 2048));
        Due.yes("draft", x.attribute(false, 0, 0, 10));
        Due.is("pin stays", x.wish(0, 7), 4);
        Due.yes("wish that it has already", x.attribute(true, 0, 0, 277));
        Due.is("pin 0", x.wish(0, 7), -1);
        Due.is("pin 1", x.wish(1, 7), 4);
    }

    private static void loadingStays() {
        FontShelf x = Make.withFonts(4);
        x.glyph(0, 0, 8, 8, 0);
        x.attribute(false, 0, 0, 1);
        x.attribute(true, 0, 0, 1);
        Due.is("still needed", x.look(5), 8);
    }
}
