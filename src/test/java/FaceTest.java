import java.lang.reflect.Constructor;
import java.lang.reflect.Field;
import java.lang.reflect.Method;
import java.lang.reflect.Modifier;
import java.util.Arrays;
import java.util.TreeSet;

/** The face is that of the document, and nothing more can be seen (LANGUAGE.md, rule 1). */
public final class FaceTest {
    private static final String[] FACE = {
        "chord(2)", "count(1)", "easiest(0)", "fault(1)", "feed(5)", "fret(4)", "guess(0)",
        "hands(2)", "key(1)", "move(1)", "name(1)", "play(1)", "played(1)", "song(1)",
        "string(1)", "told(1)", "unstring(0)", "write(0)"
    };

    public static void main(String[] args) {
        methods();
        fieldsAndConstructors();
        classesInside();
        Checks.end();
    }

    private static void methods() {
        TreeSet<String> open = new TreeSet<>();
        TreeSet<String> hidden = new TreeSet<>();
        for (Method method : ChordMover.class.getDeclaredMethods()) {
            if (Modifier.isPrivate(method.getModifiers())) {
                hidden.add(method.getName());
            } else if (!method.isSynthetic()) {
                open.add(method.getName() + "(" + method.getParameterCount() + ")");
                Checks.due(method.getName() + " answers", method.getReturnType().getName(), "int");
            }
        }
        Checks.due("methods", open.toString(), Arrays.toString(FACE));
        for (String entry : FACE) {
            String name = entry.substring(0, entry.indexOf('('));
            Checks.due("private methods named " + name, hidden.contains(name) ? 1 : 0, 0);
        }
    }

    private static void fieldsAndConstructors() {
        for (Field field : ChordMover.class.getDeclaredFields()) {
            boolean hidden = Modifier.isPrivate(field.getModifiers()) || field.isSynthetic();
            Checks.due("field " + field.getName() + " is open", hidden ? 0 : 1,
                field.getName().equals("NONE") ? 1 : 0);
        }
        Constructor<?>[] constructors = ChordMover.class.getDeclaredConstructors();
        Checks.due("constructors", constructors.length, 1);
        Checks.due("of parameters", constructors[0].getParameterCount(), 0);
        Checks.due("a final class", Modifier.isFinal(ChordMover.class.getModifiers()) ? 1 : 0, 1);
    }

    private static void classesInside() {
        Class<?>[] inside = ChordMover.class.getDeclaredClasses();
        Checks.due("at most twelve classes", Math.max(12, inside.length), 12);
        for (Class<?> one : inside) {
            Checks.due(one.getName() + " is static", Modifier.isStatic(one.getModifiers()) ? 1 : 0, 1);
            Checks.due(one.getName() + " is public", Modifier.isPublic(one.getModifiers()) ? 1 : 0, 0);
        }
    }
}
