/** Promise 8: permanent. */
public final class PermanentTest {
    public static void main(String[] args) {
        FontShelf x = new FontShelf();
        Due.no("empty shelf, on", x.permanent(true));
        Due.no("empty shelf, off", x.permanent(false));
        Make.font(x, 1);
        Make.font(x, 2);
        Due.no("off already", x.permanent(false));
        x.glyph(0, 0, 8, 8, 0);
        Due.yes("on", x.permanent(true));
        Due.no("on already", x.permanent(true));
        Due.is("font 1", x.font(0, 8), 0);
        Due.is("font 2", x.font(1, 8), 1);
        Due.is("the order stays", x.font(1, 7), 2);
        Due.yes("off", x.permanent(false));
        Due.is("font 2 again", x.font(1, 8), 0);
        Due.is("what is loaded stays", x.look(5), 8);
        x.hand(false, 3);
        Due.no("no such font, on", x.permanent(true));
        Due.no("no such font, off", x.permanent(false));
        Due.end();
    }
}
