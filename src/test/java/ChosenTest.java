/** Promise 11: chosen, step by step. */
public final class ChosenTest {
    public static void main(String[] args) {
        noneSuch();
        bySet();
        bySpacing();
        byPitch();
        byHeight();
        byStyleAndFace();
        byWeight();
        byPermanenceAndOrder();
        stepsComeInOrder();
        fullShelf();
        Due.end();
    }

    /** Font i has the ID i and the attributes of a first draft, but for attribute w. */
    private static FontShelf differingIn(int w, int... values) {
        FontShelf x = new FontShelf();
        for (int i = 0; i < values.length; i++) {
            x.attribute(false, 0, w, values[i]);
            Make.font(x, i);
        }
        return x;
    }

    private static void wished(FontShelf x, int w, int value, int want) {
        for (int which = 0; which < 2; which++) {
            x.attribute(true, which, w, value);
            Due.is("chosen(" + which + ") for attribute " + w + " = " + value, x.chosen(which), want);
        }
    }

    private static void noneSuch() {
        FontShelf x = new FontShelf();
        Due.is("empty", x.chosen(0), -1);
        Make.font(x, 5);
        for (int which : new int[] {-1, 2, Integer.MIN_VALUE, Integer.MAX_VALUE}) {
            Due.is("chosen(" + which + ")", x.chosen(which), -1);
        }
        Due.is("the only one", x.chosen(1), 5);
    }

    private static void bySet() {
        FontShelf x = differingIn(0, 10, 277, 20, 277, 30);
        wished(x, 0, 20, 2);
        wished(x, 0, 277, 3);
        wished(x, 0, 21, 3);
        wished(differingIn(0, 10, 20, 30), 0, 21, 2);
    }

    private static void bySpacing() {
        wished(differingIn(1, 0, 1, 0, 1, 0), 1, 1, 3);
        wished(differingIn(1, 0, 1, 0, 1, 1), 1, 0, 2);
        wished(differingIn(1, 0, 0), 1, 1, 1);
        wished(differingIn(1, 1, 1), 1, 0, 1);
    }

    private static void byPitch() {
        FontShelf x = differingIn(2, 1000, 1200, 1667, 1200, 800);
        wished(x, 2, 1, 4);
        wished(x, 2, 800, 4);
        wished(x, 2, 801, 0);
        wished(x, 2, 1000, 0);
        wished(x, 2, 1001, 3);
        wished(x, 2, 1201, 2);
        wished(x, 2, 1668, 2);
        wished(x, 2, 57600, 2);
        wished(x, 1, 1, 4);
        FontShelf y = differingIn(2, 1000, 900, 800);
        wished(y, 2, 2000, 0);
        FontShelf uneven = new FontShelf();
        Make.font(uneven, 1, 277, 1, 1000);
        Make.font(uneven, 2, 277, 1, 500);
        Due.is("even is wished for, but there is none", uneven.chosen(0), 2);
    }

    private static void byHeight() {
        FontShelf x = differingIn(3, 1000, 1400, 1001, 1400, 2000, 1000);
        wished(x, 3, 1, 5);
        wished(x, 3, 1000, 5);
        wished(x, 3, 1001, 2);
        wished(x, 3, 1200, 2);
        wished(x, 3, 1201, 3);
        wished(x, 3, 1700, 4);
        wished(x, 3, 1699, 3);
        wished(x, 3, 99999, 4);
        wished(differingIn(3, 1400, 1000), 3, 1200, 0);
        wished(differingIn(3, 1000, 1400), 3, 1199, 0);
        wished(differingIn(3, 1, 99999), 3, 50000, 1);
        wished(differingIn(3, 1, 99999), 3, 49999, 0);
    }

    private static void byStyleAndFace() {
        for (int w = 4; w <= 6; w += 2) {
            FontShelf x = differingIn(w, 5, 7, 6, 7, 9);
            wished(x, w, 5, 0);
            wished(x, w, 7, 3);
            wished(x, w, 8, 4);
            wished(x, w, 32767, 4);
        }
    }

    private static void byWeight() {
        FontShelf x = differingIn(5, -3, 0, 3, -5, 5, 3);
        int[] want = {3, 3, 3, 3, 0, 0, 0, 1, 5, 5, 5, 4, 4, 4, 4};
        for (int weight = -7; weight <= 7; weight++) {
            wished(x, 5, weight, want[weight + 7]);
        }
        FontShelf both = differingIn(5, 1, -1);
        wished(both, 5, 0, 0);
        wished(both, 5, -1, 1);
        wished(both, 5, -2, 1);
        FontShelf light = differingIn(5, -4, -2);
        wished(light, 5, 0, 1);
        wished(light, 5, 7, 1);
        wished(light, 5, -1, 1);
        wished(light, 5, -3, 0);
        wished(light, 5, -7, 0);
        FontShelf heavy = differingIn(5, 4, 2);
        wished(heavy, 5, -1, 1);
        wished(heavy, 5, 0, 1);
        wished(heavy, 5, 3, 0);
        wished(heavy, 5, 5, 0);
    }

    private static void byPermanenceAndOrder() {
        FontShelf x = Make.withFonts(8, 9, 7);
        Due.is("the last", x.chosen(0), 7);
        x.permanent(true);
        Due.is("the last not permanent", x.chosen(0), 9);
        x.hand(false, 9);
        x.permanent(true);
        Due.is("the only one not permanent", x.chosen(0), 8);
        x.hand(false, 8);
        x.permanent(true);
        Due.is("all are permanent", x.chosen(0), 7);
        x.header();
        Due.is("it came again", x.chosen(0), 8);
    }

    /** Font 1 fits from attribute w on, font 2 (which came later) in all behind it: font 1 is taken. */
    private static void stepsComeInOrder() {
        int[] wish = {10, 0, 1000, 1200, 4, 2, 6};
        int[] other = {11, 1, 1001, 1201, 5, 3, 7};
        for (int w = 0; w < wish.length; w++) {
            FontShelf x = new FontShelf();
            Make.wish(x, 0, wish);
            int[] first = other.clone();
            int[] second = wish.clone();
            for (int v = 0; v <= w; v++) {
                first[v] = wish[v];
            }
            second[w] = other[w];
            Make.font(x, 1, first);
            x.permanent(true);
            Make.font(x, 2, second);
            Due.is("attribute " + w + " goes before those behind it", x.chosen(0), 1);
        }
    }

    private static void fullShelf() {
        FontShelf x = new FontShelf();
        for (int id = 0; id < 32; id++) {
            Make.font(x, id, 100 + id);
        }
        for (int id = 0; id < 32; id++) {
            wished(x, 0, 100 + id, id);
        }
        wished(x, 0, 5, 31);
    }
}
