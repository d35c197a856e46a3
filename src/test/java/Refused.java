import java.util.List;
import java.util.function.Predicate;
import java.util.function.Supplier;
import java.util.function.ToLongFunction;

/** Refused calls: the answer is the one due, and the call changed nothing that other calls show. */
final class Refused {
    private Refused() {
    }

    static void isFalse(String what, List<Supplier<FontShelf>> scenes, Predicate<FontShelf> call) {
        answers(what, 0, scenes, x -> call.test(x) ? 1 : 0);
    }

    static void answers(String what, long want, List<Supplier<FontShelf>> scenes, ToLongFunction<FontShelf> call) {
        for (Supplier<FontShelf> scene : scenes) {
            Due.is(what, call.applyAsLong(scene.get()), want);
            leavesAll(what, scene, call);
        }
    }

    static void throwing(String what, Class<? extends RuntimeException> want, List<Supplier<FontShelf>> scenes,
            ToLongFunction<FontShelf> call) {
        for (Supplier<FontShelf> scene : scenes) {
            FontShelf asked = scene.get();
            Due.throwing(what, want, () -> call.applyAsLong(asked));
            leavesAll(what, scene, call);
        }
    }

    private static void leavesAll(String what, Supplier<FontShelf> scene, ToLongFunction<FontShelf> call) {
        Shown.same(what, after(scene, call), scene);
    }

    /** The scene, once the call has been made in it, whatever it answers. */
    static Supplier<FontShelf> after(Supplier<FontShelf> scene, ToLongFunction<FontShelf> call) {
        return () -> {
            FontShelf x = scene.get();
            Due.outcome(() -> call.applyAsLong(x));
            return x;
        };
    }
}
