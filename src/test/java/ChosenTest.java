import java.util.List;

/** Promise 11: chosen, with each step of the choice. */
public final class ChosenTest {
    private static final int SET = 0;
    private static final int SPACING = 1;
    private static final int PITCH = 2;
    private static final int HEIGHT = 3;
    private static final int STYLE = 4;
    private static final int WEIGHT = 5;
    private static final int FACE = 6;

    public static void main(String[] args) {
        Due.sentence("NONE if which is neither 0 nor 1", ChosenTest::noWhich);
        Due.sentence("There is none if the shelf is empty", ChosenTest::emptyShelf);
        pins();
        setAndSpacing();
        pitch();
        Due.sentence("those with the HEIGHT nearest to that of the WISH", ChosenTest::height);
        Due.sentence("of two as near the greater one", ChosenTest::asNear);
        Due.sentence("STYLE: those with that of the WISH; if there are none, all", () -> sameOrAll(STYLE, 32767));
        weights();
        Due.sentence("FACE: those with that of the WISH; if there are none, all", () -> sameOrAll(FACE, 65535));
        Due.sentence("At last those that are not PERMANENT, if there are any", ChosenTest::notPermanent);
        Due.sentence("and of these the one that came last", ChosenTest::cameLast);
        Due.sentence("these steps, one behind the other", ChosenTest::oneBehindTheOther);
        Due.sentence("of all fonts of the shelf", ChosenTest::fullShelf);
        Due.end();
    }

    /** Font i has the ID i and the attributes of a first draft, but for attribute w. */
    private static FontShelf differingIn(int w, int... values) {
        FontShelf x = new FontShelf();
        for (int i = 0; i < values.length; i++) {
            x.attribute(false, 0, w, values[i]);
            Make.font(x, i);
        }
        return x;
    }

    private static void wished(FontShelf x, int w, int value, int want) {
        for (int which = 0; which < 2; which++) {
            x.attribute(true, which, w, value);
            Due.is("chosen(" + which + ") for attribute " + w + " = " + value, x.chosen(which), want);
        }
    }

    /** The wish, and then the fonts 0, 1, .. in the order in which they come. */
    private static void chosen(String what, int want, int[] wish, int[]... fonts) {
        FontShelf x = new FontShelf();
        for (int i = 0; i < fonts.length; i++) {
            Make.font(x, i, fonts[i]);
        }
        for (int which = 0; which < 2; which++) {
            Make.wish(x, which, wish);
            Due.is(what + ": chosen(" + which + ")", x.chosen(which), want);
        }
    }

    private static int[] font(int... attributes) {
        int[] all = Make.FIRST_DRAFT.clone();
        System.arraycopy(attributes, 0, all, 0, attributes.length);
        return all;
    }

    private static void noWhich() {
        for (int which : Make.NO_WHICH) {
            Refused.answers("chosen(" + which + ")", -1, Scene.ALL, x -> x.chosen(which));
        }
        Due.is("chosen(0)", Scene.BUSY.get().chosen(0), 32767);
        Due.is("chosen(1)", Scene.BUSY.get().chosen(1), 5);
    }

    private static void emptyShelf() {
        for (int i = 0; i < 2; i++) {
            int which = i;
            Refused.answers("chosen(" + which + ")", -1, List.of(Scene.EMPTY), x -> x.chosen(which));
            FontShelf x = Make.withFonts(0);
            Due.is("a shelf of one", x.chosen(which), 0);
            x.pin(which, 0);
            x.drop(2);
            Due.is("it went", x.chosen(which), -1);
            Make.font(x, 32767, Make.GREATEST_VALUE);
            Due.is("one that is not like the wish at all", x.chosen(which), 32767);
            x.permanent(true);
            Due.is("and is permanent", x.chosen(which), 32767);
        }
    }

    private static void pins() {
        Due.sentence("The font CHOSEN is the PINNED one", () -> {
            FontShelf x = Make.withFonts(0, 1, 2);
            x.pin(0, 0);
            x.pin(1, 1);
            Due.is("chosen(0)", x.chosen(0), 0);
            Due.is("chosen(1)", x.chosen(1), 1);
            x.hand(false, 0);
            x.permanent(true);
            Due.is("a permanent one too", x.chosen(0), 0);
            x.attribute(true, 0, FACE, 3);
            Due.is("without the PIN", x.chosen(0), 2);
            Due.is("the other keeps its own", x.chosen(1), 1);
        });
        Due.sentence("as long as there is a font with that ID", ChosenTest::pinnedFontGoesAndComes);
    }

    private static void pinnedFontGoesAndComes() {
        FontShelf x = new FontShelf();
        Make.font(x, 1);
        Make.font(x, 2, 10, 1, 20, 30, 40, -5, 60);
        Make.font(x, 3, 277, 0, 1000, 1200, 0, 0, 3);
        x.pin(0, 2);
        Due.is("there it is", x.chosen(0), 2);
        x.hand(false, 2);
        x.header();
        Due.is("with other attributes", x.chosen(0), 2);
        Due.is("the wish is still the first one's", x.wish(0, SET), 10);
        x.drop(2);
        Due.is("it went", x.chosen(0), 3);
        x.hand(false, 4);
        x.attribute(false, 0, SET, 10);
        x.header();
        Due.is("one like the wish", x.chosen(0), 4);
        x.hand(false, 2);
        x.attribute(false, 0, SET, 11);
        x.header();
        Due.is("it came again", x.chosen(0), 2);
    }

    private static void setAndSpacing() {
        Due.sentence("SET: those with the SET of the WISH", () -> {
            FontShelf x = differingIn(SET, 0, 277, 20, 277, 2047, 276);
            wished(x, SET, 20, 2);
            wished(x, SET, 0, 0);
            wished(x, SET, 2047, 4);
            wished(x, SET, 277, 3);
            wished(x, SET, 276, 5);
        });
        Due.sentence("if there are none, those with SET 277", () -> {
            FontShelf x = differingIn(SET, 277, 20, 277, 276, 278, 2047);
            for (int set : new int[] {0, 19, 21, 2046}) {
                wished(x, SET, set, 2);
            }
        });
        Due.sentence("SET: if there are none, all", () -> {
            FontShelf x = differingIn(SET, 276, 20, 278);
            for (int set : new int[] {0, 277, 2047}) {
                wished(x, SET, set, 2);
            }
            chosen("all of them", 0, font(5), font(6), font(7, 1));
        });
        Due.sentence("SPACING: those with that of the WISH", () -> {
            wished(differingIn(SPACING, 0, 1, 0, 1, 0), SPACING, 1, 3);
            wished(differingIn(SPACING, 1, 0, 1, 0, 1), SPACING, 0, 3);
        });
        Due.sentence("SPACING: if there are none, all", () -> {
            wished(differingIn(SPACING, 0, 0), SPACING, 1, 1);
            wished(differingIn(SPACING, 1, 1), SPACING, 0, 1);
            chosen("all that are left", 0, font(10, 1), font(10, 0), font(277, 1));
        });
    }

    private static void pitch() {
        Due.sentence("PITCH, if the SPACING of the WISH is 0", () -> {
            wished(differingIn(PITCH, 1200, 1000, 1300), SPACING, 0, 1);
            wished(differingIn(PITCH, 1200, 1000, 1300), SPACING, 1, 2);
            chosen("all are uneven, as is wished", 1, font(277, 1, 1000), font(277, 1, 1000), font(277, 1, 9));
        });
        Due.sentence("and all that are left have it", () -> {
            chosen("none is even", 1, font(277, 0, 1000), font(277, 1, 1000), font(277, 1, 9));
            chosen("some are even", 1, font(277, 0, 1000), font(277, 1, 1000), font(277, 0, 1001), font(277, 0, 2000));
        });
        Due.sentence("the PITCH that is least among those not below that of the WISH", ChosenTest::notBelow);
        Due.sentence("if all are below it, those with the greatest", () -> {
            wished(differingIn(PITCH, 999, 800, 999, 998), PITCH, 1000, 2);
            wished(differingIn(PITCH, 57599, 1), PITCH, 57600, 0);
            wished(differingIn(PITCH, 1), PITCH, 57600, 0);
        });
    }

    private static void notBelow() {
        FontShelf x = differingIn(PITCH, 1000, 1200, 57600, 1200, 800);
        int[][] wants = {{1, 4}, {799, 4}, {800, 4}, {801, 0}, {1000, 0}, {1001, 3}, {1200, 3}, {1201, 2}, {57600, 2}};
        for (int[] want : wants) {
            wished(x, PITCH, want[0], want[1]);
        }
        wished(differingIn(PITCH, 57600, 1000), PITCH, 1001, 0);
        wished(differingIn(PITCH, 1, 2), PITCH, 1, 0);
        chosen("only that PITCH", 1, font(277, 0, 900, 50), font(277, 0, 901, 50), font(277, 0, 900, 90));
    }

    private static void height() {
        FontShelf x = differingIn(HEIGHT, 1000, 1400, 1001, 1400, 2000, 1000);
        int[][] wants = {{1, 5}, {999, 5}, {1000, 5}, {1001, 2}, {1002, 2}, {1200, 2}, {1201, 3}, {1400, 3}, {1699, 3},
            {1701, 4}, {2000, 4}, {99999, 4}};
        for (int[] want : wants) {
            wished(x, HEIGHT, want[0], want[1]);
        }
        wished(differingIn(HEIGHT, 1000, 1400), HEIGHT, 1199, 0);
        wished(differingIn(HEIGHT, 1400, 1000), HEIGHT, 1201, 0);
        wished(differingIn(HEIGHT, 1, 99999), HEIGHT, 1, 0);
        wished(differingIn(HEIGHT, 99999, 1), HEIGHT, 99999, 0);
        wished(differingIn(HEIGHT, 1, 99999), HEIGHT, 49999, 0);
        wished(differingIn(HEIGHT, 99999, 1), HEIGHT, 50001, 0);
        wished(differingIn(HEIGHT, 99999), HEIGHT, 1, 0);
    }

    private static void asNear() {
        wished(differingIn(HEIGHT, 1000, 1400), HEIGHT, 1200, 1);
        wished(differingIn(HEIGHT, 1400, 1000), HEIGHT, 1200, 0);
        wished(differingIn(HEIGHT, 1400, 1400, 1000, 1000), HEIGHT, 1200, 1);
        wished(differingIn(HEIGHT, 99999, 1), HEIGHT, 50000, 0);
        wished(differingIn(HEIGHT, 3, 1), HEIGHT, 2, 0);
        wished(differingIn(HEIGHT, 3, 2, 1), HEIGHT, 2, 1);
        chosen("the less one fits better behind it", 0, font(277, 0, 1, 20, 5, 6, 7),
            font(277, 0, 1, 30, 0, 0, 0), font(277, 0, 1, 10, 5, 6, 7));
    }

    private static void sameOrAll(int w, int greatest) {
        FontShelf x = differingIn(w, 0, 7, 6, 7, greatest, 9);
        int[][] wants = {{0, 0}, {7, 3}, {6, 2}, {greatest, 4}, {9, 5}};
        for (int[] want : wants) {
            wished(x, w, want[0], want[1]);
        }
        for (int none : new int[] {1, 5, 8, greatest - 1}) {
            wished(x, w, none, 5);
        }
        FontShelf left = new FontShelf();
        Make.font(left, 0, 10);
        left.attribute(false, 0, w, 8);
        Make.font(left, 1, 277);
        Make.wish(left, 0, 10);
        left.attribute(true, 0, w, 8);
        Due.is("all that are left", left.chosen(0), 0);
    }

    private static void weights() {
        Due.sentence("WEIGHT: those with that of the WISH", () -> {
            for (int weight = -7; weight <= 7; weight++) {
                wished(differingIn(WEIGHT, weight, weight, Math.max(-7, weight - 1) == weight ? 7 : weight - 1,
                    weight == 7 ? -7 : weight + 1), WEIGHT, weight, 1);
            }
        });
        Due.sentence("for a WISH of 0 or more, those with the least WEIGHT above it, if there are any", () -> {
            wished(differingIn(WEIGHT, 7, 1, 2, -1), WEIGHT, 0, 1);
            wished(differingIn(WEIGHT, 7, 0, -7), WEIGHT, 1, 0);
            wished(differingIn(WEIGHT, 7, 6, 6, 4), WEIGHT, 5, 2);
            wished(differingIn(WEIGHT, 7, 5), WEIGHT, 6, 0);
        });
        Due.sentence("for a WISH of 0 or more, otherwise with the greatest", () -> {
            wished(differingIn(WEIGHT, -7, -1, -1, -2), WEIGHT, 0, 2);
            wished(differingIn(WEIGHT, 2, 6, 3), WEIGHT, 7, 1);
            wished(differingIn(WEIGHT, 0, -1), WEIGHT, 1, 0);
        });
        Due.sentence("for one below 0 those with the greatest WEIGHT below it, if there are any", () -> {
            wished(differingIn(WEIGHT, -7, -2, -3, 0), WEIGHT, -1, 1);
            wished(differingIn(WEIGHT, -7, 0, 7), WEIGHT, -1, 0);
            wished(differingIn(WEIGHT, -7, -6, -6, -4), WEIGHT, -5, 2);
            wished(differingIn(WEIGHT, -7, -5), WEIGHT, -6, 0);
        });
        Due.sentence("for one below 0 otherwise with the least", () -> {
            wished(differingIn(WEIGHT, 7, 0, 0, 1), WEIGHT, -1, 2);
            wished(differingIn(WEIGHT, -2, -6, -3), WEIGHT, -7, 1);
            wished(differingIn(WEIGHT, 7), WEIGHT, -7, 0);
        });
    }

    private static void notPermanent() {
        FontShelf x = Make.withFonts(8, 9, 7);
        Due.is("none is permanent", x.chosen(0), 7);
        x.permanent(true);
        Due.is("the last is", x.chosen(0), 9);
        x.hand(false, 9);
        x.permanent(true);
        Due.is("the last two are", x.chosen(0), 8);
        x.hand(false, 8);
        x.permanent(true);
        Due.is("all are", x.chosen(0), 7);
        x.permanent(false);
        Due.is("but the first", x.chosen(0), 8);
    }

    private static void cameLast() {
        FontShelf x = Make.withFonts(8, 9, 7);
        Due.is("the last", x.chosen(1), 7);
        x.hand(false, 8);
        x.header();
        Due.is("it came again", x.chosen(1), 8);
        x.drop(2);
        Due.is("it went", x.chosen(1), 7);
        Make.font(x, 0);
        Due.is("a new one", x.chosen(1), 0);
    }

    /** Font 1 fits up to attribute w, font 2 (which came later, and passes) in all but w: font 1 is taken. */
    private static void oneBehindTheOther() {
        int[] wish = {10, 0, 1000, 1200, 4, 2, 6};
        int[] other = {11, 1, 1001, 1201, 5, 3, 7};
        for (int w = 0; w < wish.length; w++) {
            FontShelf x = new FontShelf();
            Make.wish(x, 0, wish);
            int[] first = other.clone();
            int[] second = wish.clone();
            for (int v = 0; v <= w; v++) {
                first[v] = wish[v];
            }
            second[w] = other[w];
            Make.font(x, 1, first);
            x.permanent(true);
            Make.font(x, 2, second);
            Due.is("attribute " + w + " goes before those behind it", x.chosen(0), 1);
        }
    }

    private static void fullShelf() {
        FontShelf x = new FontShelf();
        for (int id = 0; id < 32; id++) {
            Make.font(x, id, 100 + id);
        }
        for (int id = 0; id < 32; id++) {
            wished(x, SET, 100 + id, id);
        }
        wished(x, SET, 5, 31);
    }
}
