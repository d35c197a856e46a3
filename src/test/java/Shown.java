import java.util.ArrayList;
import java.util.HashMap;
import java.util.List;
import java.util.Map;
import java.util.function.Supplier;

/**
 * All that the calls show of a shelf. Each view has a shelf of its own, made anew, so that it may go on with it
 * as it likes (pin a font to see its glyphs, load what is being loaded) and stays below 512 calls.
 */
final class Shown {
    private static final int[] CODES = {0, 65, 254, 255};
    // What a scene shows is asked for again and again, and is always the same.
    private static final Map<Supplier<FontShelf>, List<String>> KNOWN = new HashMap<>();

    private final List<String> lines = new ArrayList<>();

    private Shown(Supplier<FontShelf> made) {
        counts(made.get());
        wishes(made.get());
        shelf(made.get());
        choiceWithoutPins(made.get());
        whatIsBeingLoaded(made.get());
        FontShelf x = made.get();
        for (int i = 0; i < x.look(0); i++) {
            for (int c = 0; c < CODES.length && x.font(i, 9) > 0; c++) {
                glyphOfFont(made.get(), i, CODES[c]);
            }
        }
    }

    /** Tells the first difference between what there is after a call and what is due. */
    static void same(String what, Supplier<FontShelf> after, Supplier<FontShelf> due) {
        List<String> got = new Shown(after).lines;
        List<String> want = KNOWN.computeIfAbsent(due, d -> new Shown(d).lines);
        for (int i = 0; i < Math.max(got.size(), want.size()); i++) {
            String is = i < got.size() ? got.get(i) : "nothing";
            String should = i < want.size() ? want.get(i) : "nothing";
            if (!is.equals(should)) {
                Due.tell("after " + what + " there is " + is + ", due is " + should);
                return;
            }
        }
    }

    private void add(String what, Due.Call call) {
        lines.add(what + " = " + Due.outcome(call));
    }

    private static long one(boolean yes) {
        return yes ? 1 : 0;
    }

    private void counts(FontShelf x) {
        for (int i = 0; i < 6; i++) {
            int which = i;
            add("look " + which, () -> x.look(which));
        }
        add("chosen 0", () -> x.chosen(0));
        add("chosen 1", () -> x.chosen(1));
    }

    private void wishes(FontShelf x) {
        for (int i = 0; i < 24; i++) {
            int which = i / 8;
            int w = i % 8;
            add("wish " + which + " " + w, () -> x.wish(which, w));
        }
    }

    private void shelf(FontShelf x) {
        int fonts = x.look(0);
        for (int n = 0; n < 10 * fonts; n++) {
            int i = n / 10;
            int w = n % 10;
            add("font " + i + " " + w, () -> x.font(i, w));
        }
    }

    private void choiceWithoutPins(FontShelf x) {
        for (int i = 0; i < 2; i++) {
            int which = i;
            add("wish again " + which, () -> one(x.attribute(true, which, 6, x.wish(which, 6))));
            add("chosen without a pin " + which, () -> x.chosen(which));
        }
    }

    private void whatIsBeingLoaded(FontShelf x) {
        add("bytes more", () -> one(x.bytes(0x1122_3344_5566_7788L, 8)));
        add("load", () -> x.load());
        add("glyphs then", () -> x.look(1));
        add("bytes then", () -> x.look(2));
        add("pin to the ID at hand", () -> one(x.pin(0, x.look(3))));
        glyph(x, 0, x.look(4));
    }

    private void glyphOfFont(FontShelf x, int i, int code) {
        add("pin to font " + i, () -> one(x.pin(1, x.font(i, 7))));
        glyph(x, 1, code);
    }

    private void glyph(FontShelf x, int which, int code) {
        for (int i = 0; i < 6; i++) {
            int w = i;
            add("code " + code + " of " + w, () -> x.of(which, code, w));
        }
        int depth = Due.outcome(() -> x.of(which, code, 3)).matches("\\d+") ? x.of(which, code, 3) : 0;
        for (int i = 0; i < 2 * depth; i++) {
            int j = i / 2;
            int k = i % 2;
            add("code " + code + " row " + j + " " + k, () -> x.row(which, code, j, k));
        }
    }
}
