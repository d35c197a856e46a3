import java.util.List;
import java.util.function.Supplier;

/** Shelves in states that matter. Each is always made by the same calls, so that two of them are twins. */
final class Scene {
    static final Supplier<FontShelf> EMPTY = FontShelf::new;
    /** Three fonts with glyphs, one of them permanent, a pin, wishes of its own, and a glyph that is half loaded. */
    static final Supplier<FontShelf> BUSY = Scene::busy;
    /** The same without any glyph that is being loaded. */
    static final Supplier<FontShelf> IDLE = Scene::idle;
    /** The same, with the permanent font at hand, and a glyph of it that is half loaded. */
    static final Supplier<FontShelf> PERMANENT_AT_HAND = Scene::permanentAtHand;
    /** The same, but no font has the ID at hand. */
    static final Supplier<FontShelf> STRANGER = Scene::stranger;
    /** 32 fonts, and the ID at hand is that of none. */
    static final Supplier<FontShelf> FULL = Scene::full;
    /** 16384 bytes of glyphs. */
    static final Supplier<FontShelf> BRIMFUL = Scene::brimful;

    static final List<Supplier<FontShelf>> WITH_FONT_AT_HAND = List.of(BUSY, IDLE, PERMANENT_AT_HAND, BRIMFUL);
    static final List<Supplier<FontShelf>> WITHOUT_FONT_AT_HAND = List.of(EMPTY, STRANGER, FULL);
    static final List<Supplier<FontShelf>> NONE_BEING_LOADED = List.of(EMPTY, IDLE, STRANGER, FULL, BRIMFUL);
    static final List<Supplier<FontShelf>> ALL =
        List.of(EMPTY, BUSY, IDLE, PERMANENT_AT_HAND, STRANGER, FULL, BRIMFUL);

    private Scene() {
    }

    private static FontShelf busy() {
        FontShelf x = idle();
        x.glyph(-5, 6, 12, 3, 8);
        x.bytes(0xABCD, 2);
        return x;
    }

    private static FontShelf idle() {
        FontShelf x = threeFonts();
        x.hand(false, 5);
        x.hand(true, 255);
        return x;
    }

    private static FontShelf permanentAtHand() {
        FontShelf x = threeFonts();
        x.hand(false, 0);
        x.hand(true, 254);
        x.glyph(1, 1, 8, 2, 1);
        x.bytes(0x77, 1);
        return x;
    }

    private static FontShelf stranger() {
        FontShelf x = threeFonts();
        x.hand(false, 6);
        x.hand(true, 255);
        return x;
    }

    private static FontShelf full() {
        FontShelf x = new FontShelf();
        for (int id = 32; id > 0; id--) {
            Make.font(x, id, 10 * id);
        }
        x.permanent(true);
        Make.blank(x, 7, 65, 9, 2);
        Make.blank(x, 1, 255, 3, 3);
        x.pin(0, 8);
        x.pin(1, 9);
        Make.draft(x, 99, 1, 98, 97, 96, -6, 95);
        x.hand(false, 0);
        return x;
    }

    private static FontShelf brimful() {
        FontShelf x = Make.withFonts(1, 0);
        for (int code = 0; code < 7; code++) {
            Make.blank(x, 1, code, 128, 128);
        }
        Make.blank(x, 1, 254, 128, 127);
        Make.blank(x, 0, 65, 8, 8);
        x.hand(true, 255);
        x.glyph(-1, -2, 64, 1, 3);
        x.bytes(0x8142_C324_99E7_7E55L, 8);
        x.load();
        x.pin(0, 1);
        Make.wish(x, 1, 94, 1, 93, 92, 91, 6, 90);
        Make.draft(x, 99, 1, 98, 97, 96, -6, 95);
        return x;
    }

    private static FontShelf threeFonts() {
        FontShelf x = new FontShelf();
        Make.font(x, 32767, 10, 1, 20, 30, 40, -5, 60);
        x.glyph(-3, 7, 9, 2, 11);
        x.bytes(0xFF80_5500L, 4);
        x.load();
        Make.font(x, 0, 277, 0, 1000, 1200, 0, 0, 3);
        x.hand(true, 65);
        Make.dots(x, 70, 1, 0x0123_4567_89AB_CDEFL, -1L);
        x.permanent(true);
        Make.font(x, 5, 277, 0, 1200, 1400, 1, 3, 7);
        x.hand(true, 255);
        Make.dots(x, 16, 4, 0x1122_3344_5566_7788L);
        x.pin(0, 32767);
        Make.wish(x, 1, 277, 0, 1100, 1300, 1, -2, 3);
        Make.draft(x, 99, 1, 98, 97, 96, -6, 95);
        return x;
    }
}
