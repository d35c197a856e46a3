import java.util.List;
import java.util.function.Supplier;
import java.util.function.ToLongFunction;

/** What a call that is taken leaves as it was: all that its promise does not name. */
public final class NothingElseTest {
    private static final String LOADING = "look 5|then .*";
    private static final String COUNTS = "look [012]|chosen .*|place .*|" + LOADING;
    private static final List<Supplier<FontShelf>> LOADED_OR_BEGUN =
        List.of(Scene.IDLE, Scene.BUSY, Scene.PERMANENT_AT_HAND, Scene.BRIMFUL);

    public static void main(String[] args) {
        Due.sentence("hand: the ID (or with code the CODE) at hand", NothingElseTest::hand);
        Due.sentence("attribute: attribute w of the DRAFT (or with wish, of the WISH)", NothingElseTest::attribute);
        Due.sentence("header: a font comes behind all others, in place of one", NothingElseTest::header);
        Due.sentence("glyph is begun, bytes come to it, it is loaded", NothingElseTest::loading);
        Due.sentence("permanent: the font of the ID at hand", NothingElseTest::permanent);
        Due.sentence("drop: all fonts, all that are not PERMANENT, one, a glyph", NothingElseTest::drop);
        Due.sentence("pin: font which is PINNED, and its WISH becomes", NothingElseTest::pin);
        Due.sentence("chosen, font, of, row, wish and look: only asked", NothingElseTest::asked);
        Due.end();
    }

    private static long one(boolean yes) {
        return yes ? 1 : 0;
    }

    /** The call is taken, and what it changes fits the pattern. */
    private static void changes(String pattern, String what, long answer, Supplier<FontShelf> scene,
            ToLongFunction<FontShelf> call) {
        Due.is(what, call.applyAsLong(scene.get()), answer);
        Shown.sameBut(pattern, what, Refused.after(scene, call), scene);
    }

    private static void hand() {
        for (Supplier<FontShelf> scene : Scene.ALL) {
            for (int id : new int[] {0, 1, 5, 77, 32767}) {
                changes("look 3|wish 2 7|" + LOADING, "hand(false, " + id + ")", 1, scene, x -> one(x.hand(false, id)));
            }
            for (int code : new int[] {0, 65, 255}) {
                changes("look 4|" + LOADING, "hand(true, " + code + ")", 1, scene, x -> one(x.hand(true, code)));
            }
        }
    }

    private static void attribute() {
        for (Supplier<FontShelf> scene : Scene.ALL) {
            for (int i = 0; i < 7; i++) {
                int w = i;
                String what = "attribute " + w;
                changes("wish 2 " + w, "draft's " + what, 1, scene, x -> one(x.attribute(false, 0, w, 1)));
                for (int n = 0; n < 2; n++) {
                    int which = n;
                    changes("wish " + which + " [" + w + "7]|chosen " + which + ".*", "wish's " + what, 1, scene,
                        x -> one(x.attribute(true, which, w, 1)));
                }
            }
        }
    }

    private static void header() {
        changes("look 0|chosen .*|place 3|font of ID 6, .*|then .*", "a new one", 4, Scene.STRANGER, x -> x.header());
        changes(COUNTS + "|font of ID 5, .*", "in place of the last", 3, Scene.BUSY, x -> x.header());
        changes(COUNTS + "|font of ID 0, .*", "in place of another", 3, Scene.PERMANENT_AT_HAND, x -> x.header());
    }

    private static void loading() {
        for (Supplier<FontShelf> scene : LOADED_OR_BEGUN) {
            changes(LOADING, "glyph()", 18, scene, x -> x.glyph(9, 8, 9, 9, 6));
        }
        for (int i = 1; i <= 8; i++) {
            int n = i;
            changes(LOADING, "bytes(.., " + n + ")", 1, Scene.BUSY, x -> one(x.bytes(-1, n)));
        }
        String loaded = "look [12]|" + LOADING + "|font of ID ";
        changes(loaded + "5, code 255 .*", "in place of one", 1, Scene.BUSY, x -> x.load());
        changes(loaded + "0, (9|code 254 .*)", "a new one", 2, Scene.PERMANENT_AT_HAND, x -> x.load());
    }

    private static void permanent() {
        changes("font of ID 5, 8|chosen .*", "on", 1, Scene.BUSY, x -> one(x.permanent(true)));
        changes("font of ID 0, 8|chosen .*", "off", 1, Scene.PERMANENT_AT_HAND, x -> one(x.permanent(false)));
        changes("font of ID 0, 8|chosen .*", "on", 1, Scene.BRIMFUL, x -> one(x.permanent(true)));
    }

    private static void drop() {
        changes(COUNTS + "|font of ID .*", "drop(0)", 3, Scene.BUSY, x -> x.drop(0));
        changes(COUNTS + "|font of ID .*", "drop(0)", 32, Scene.FULL, x -> x.drop(0));
        for (Supplier<FontShelf> scene : List.of(Scene.BUSY, Scene.PERMANENT_AT_HAND, Scene.STRANGER)) {
            changes(COUNTS + "|font of ID (32767|5), .*", "drop(1)", 2, scene, x -> x.drop(1));
        }
        changes(COUNTS + "|font of ID 5, .*", "drop(2)", 1, Scene.BUSY, x -> x.drop(2));
        changes(COUNTS + "|font of ID 0, .*", "drop(2)", 1, Scene.PERMANENT_AT_HAND, x -> x.drop(2));
        String glyphs = "look [12]|" + LOADING + "|font of ID ";
        changes(glyphs + "5, (9|code .*)", "drop(3)", 1, Scene.BUSY, x -> x.drop(3));
        changes(glyphs + "0, (9|code 255 .*)", "drop(3)", 1, Scene.BRIMFUL, x -> x.drop(3));
        changes(LOADING, "drop(3) of a glyph only begun", 0, Scene.PERMANENT_AT_HAND, x -> x.drop(3));
    }

    private static void pin() {
        for (int i = 0; i < 6; i++) {
            int which = i % 2;
            int id = new int[] {0, 5, 32767}[i / 2];
            changes("wish " + which + " .|chosen " + which + ".*", "pin(" + which + ", " + id + ")", 1, Scene.BUSY,
                x -> one(x.pin(which, id)));
        }
    }

    private static void asked() {
        List<Supplier<FontShelf>> scenes = List.of(Scene.BUSY);
        Refused.answers("chosen(0)", 32767, scenes, x -> x.chosen(0));
        Refused.answers("chosen(1)", 5, scenes, x -> x.chosen(1));
        int[] of = {0, 0, 16, 4, 0, 26};
        int[] attributes = {277, 0, 1000, 1200, 0, 0, 3, 0, 1, 1};
        int[][] wishes = {{10, 1, 20, 30, 40, -5, 60, 32767}, {277, 0, 1100, 1300, 1, -2, 3, -1},
            {99, 1, 98, 97, 96, -6, 95, 5}};
        int[] looks = {3, 3, 21, 5, 255, 4};
        for (int i = 0; i < 10; i++) {
            int w = i;
            Refused.answers("font(1, " + w + ")", attributes[w], scenes, x -> x.font(1, w));
            for (int n = 0; w < 8 && n < 3; n++) {
                int which = n;
                Refused.answers("wish(" + n + ", " + w + ")", wishes[n][w], scenes, x -> x.wish(which, w));
            }
            if (w < 6) {
                Refused.answers("of(1, 255, " + w + ")", of[w], scenes, x -> x.of(1, 255, w));
                Refused.answers("look(" + w + ")", looks[w], scenes, x -> x.look(w));
            }
        }
        Refused.answers("row(1, 255, 0, 0)", 0x1122L << 48, scenes, x -> x.row(1, 255, 0, 0));
        Refused.answers("row(0, 0, 1, 0)", 0x5500L << 48, scenes, x -> x.row(0, 0, 1, 0));
    }
}
