import java.lang.reflect.Constructor;
import java.lang.reflect.Field;
import java.lang.reflect.Method;
import java.lang.reflect.Modifier;
import java.util.Set;
import java.util.TreeSet;

/** The public face, and nothing that could be seen beside it (rules 1 and 5 of LANGUAGE.md). */
public final class FaceTest {
    private static final Set<String> FACE = Set.of(
        "boolean hand(boolean,int)",
        "boolean attribute(boolean,int,int,int)",
        "int header() IllegalStateException",
        "int glyph(int,int,int,int,int) IllegalStateException IllegalArgumentException",
        "boolean bytes(long,int)",
        "int load() IllegalStateException UnsupportedOperationException",
        "boolean permanent(boolean)",
        "int drop(int) IllegalArgumentException",
        "boolean pin(int,int)",
        "int chosen(int)",
        "int font(int,int) IndexOutOfBoundsException",
        "int of(int,int,int) IllegalArgumentException IllegalStateException",
        "long row(int,int,int,int)",
        "int wish(int,int) IndexOutOfBoundsException",
        "int look(int)");

    public static void main(String[] args) {
        Due.yes("public", Modifier.isPublic(FontShelf.class.getModifiers()));
        Due.yes("final", Modifier.isFinal(FontShelf.class.getModifiers()));
        methods();
        fields();
        Constructor<?>[] constructors = FontShelf.class.getDeclaredConstructors();
        Due.is("constructors", constructors.length, 1);
        Due.yes("public constructor", Modifier.isPublic(constructors[0].getModifiers()));
        Due.is("its parameters", constructors[0].getParameterCount(), 0);
        for (Class<?> inside : FontShelf.class.getDeclaredClasses()) {
            Due.yes(inside + " is static", Modifier.isStatic(inside.getModifiers()));
        }
        Due.end();
    }

    private static void methods() {
        Set<String> seen = new TreeSet<>();
        Set<String> names = new TreeSet<>();
        for (Method method : FontShelf.class.getDeclaredMethods()) {
            if (Modifier.isPublic(method.getModifiers())) {
                seen.add(signature(method));
                names.add(method.getName());
            }
        }
        for (Method method : FontShelf.class.getDeclaredMethods()) {
            if (!Modifier.isPublic(method.getModifiers())) {
                Due.yes(method + " is private", Modifier.isPrivate(method.getModifiers()));
                Due.no(method + " bears a public name", names.contains(method.getName()));
            }
        }
        if (!seen.equals(FACE)) {
            Due.tell("the face is " + seen);
        }
    }

    private static String signature(Method method) {
        StringBuilder text = new StringBuilder(method.getReturnType() + " " + method.getName() + "(");
        for (Class<?> type : method.getParameterTypes()) {
            text.append(text.charAt(text.length() - 1) == '(' ? "" : ",").append(type);
        }
        text.append(')');
        for (Class<?> type : method.getExceptionTypes()) {
            text.append(' ').append(type.getSimpleName());
        }
        return text.toString();
    }

    private static void fields() {
        for (Field field : FontShelf.class.getDeclaredFields()) {
            int modifiers = field.getModifiers();
            Due.yes(field + " is private or NONE", Modifier.isPrivate(modifiers) || field.getName().equals("NONE"));
            Due.yes(field + " is no static state", !Modifier.isStatic(modifiers) || Modifier.isFinal(modifiers));
        }
    }
}
