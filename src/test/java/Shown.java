import java.util.HashMap;
import java.util.LinkedHashMap;
import java.util.LinkedHashSet;
import java.util.Map;
import java.util.Set;
import java.util.function.Supplier;

/**
 * All that the calls show of a shelf. Each view has a shelf of its own, made anew, so that it may go on with it
 * as it likes (pin a font to see its glyphs, load what is being loaded) and stays below 512 calls.
 */
final class Shown {
    private static final int[] CODES = {0, 65, 254, 255};
    // What a scene shows is asked for again and again, and is always the same.
    private static final Map<Supplier<FontShelf>, Map<String, String>> KNOWN = new HashMap<>();

    private final Map<String, String> answers = new LinkedHashMap<>();

    private Shown(Supplier<FontShelf> made) {
        counts(made.get());
        wishes(made.get());
        choiceWithoutPins(made.get());
        whatIsBeingLoaded(made.get());
        FontShelf x = made.get();
        for (int i = 0; i < x.look(0); i++) {
            int id = x.font(i, 7);
            font(x, i, id);
            for (int c = 0; c < CODES.length && x.font(i, 9) > 0; c++) {
                glyphOfFont(made.get(), id, CODES[c]);
            }
        }
    }

    /** Tells the first difference between what there is after a call and what is due. */
    static void same(String what, Supplier<FontShelf> after, Supplier<FontShelf> due) {
        sameBut("", what, after, due);
    }

    /** The same, where what the pattern tells may be anything. */
    static void sameBut(String mayDiffer, String what, Supplier<FontShelf> after, Supplier<FontShelf> due) {
        Map<String, String> got = new Shown(after).answers;
        Map<String, String> want = KNOWN.computeIfAbsent(due, d -> new Shown(d).answers);
        Set<String> all = new LinkedHashSet<>(want.keySet());
        all.addAll(got.keySet());
        for (String shown : all) {
            String is = got.getOrDefault(shown, "nothing");
            String should = want.getOrDefault(shown, "nothing");
            if (!is.equals(should) && !shown.matches(mayDiffer)) {
                Due.tell("after " + what + ": " + shown + " is " + is + ", due is " + should);
                return;
            }
        }
    }

    private void add(String shown, Due.Call call) {
        answers.put(shown, Due.outcome(call));
    }

    private static long one(boolean yes) {
        return yes ? 1 : 0;
    }

    private void counts(FontShelf x) {
        for (int i = 0; i < 6; i++) {
            int which = i;
            add("look " + which, () -> x.look(which));
        }
        add("chosen 0", () -> x.chosen(0));
        add("chosen 1", () -> x.chosen(1));
    }

    private void wishes(FontShelf x) {
        for (int i = 0; i < 24; i++) {
            int which = i / 8;
            int w = i % 8;
            add("wish " + which + " " + w, () -> x.wish(which, w));
        }
    }

    private void font(FontShelf x, int i, int id) {
        answers.put("place " + i, "ID " + id);
        for (int n = 0; n < 10; n++) {
            int w = n;
            add("font of ID " + id + ", " + w, () -> x.font(i, w));
        }
    }

    private void choiceWithoutPins(FontShelf x) {
        for (int i = 0; i < 2; i++) {
            int which = i;
            x.attribute(true, which, 6, x.wish(which, 6));
            add("chosen " + which + " without a pin", () -> x.chosen(which));
        }
    }

    private void whatIsBeingLoaded(FontShelf x) {
        add("then bytes", () -> one(x.bytes(0x1122_3344_5566_7788L, 8)));
        add("then load", () -> x.load());
        add("then glyphs in all", () -> x.look(1));
        add("then bytes in all", () -> x.look(2));
        if (x.pin(0, x.look(3))) {
            glyph("then", x, 0, x.look(4));
        }
    }

    private void glyphOfFont(FontShelf x, int id, int code) {
        x.pin(1, id);
        glyph("font of ID " + id + ", code " + code, x, 1, code);
    }

    private void glyph(String whose, FontShelf x, int which, int code) {
        for (int i = 0; i < 6; i++) {
            int w = i;
            add(whose + " of " + w, () -> x.of(which, code, w));
        }
        int depth = Due.outcome(() -> x.of(which, code, 3)).matches("\\d+") ? x.of(which, code, 3) : 0;
        for (int i = 0; i < 2 * depth; i++) {
            int j = i / 2;
            int k = i % 2;
            add(whose + " row " + j + " " + k, () -> x.row(which, code, j, k));
        }
    }
}
