import java.lang.reflect.Field;
import java.lang.reflect.Method;
import java.lang.reflect.Modifier;
import java.util.ArrayList;
import java.util.Collections;
import java.util.List;
import java.util.Set;
import java.util.TreeSet;
import java.util.stream.Collectors;
import java.util.stream.Stream;

/** The face, method by method with its exceptions in their order, and that nothing else shows. */
public final class FaceTest {
    private static final String[] FACE = {
        "int piano(int, int, int) A S",
        "int rate(int) A",
        "int string(int, int, int, int, int) I A U S",
        "int strings(int, int) I",
        "int tension(int, int) I N",
        "int load(int, int) I N",
        "int borne(int) I",
        "int pitch(int, int) I N",
        "int tune(int, int, int) I A U S",
        "long rateOf(int, int) I N",
        "long beats(int, int, int, int, int) I A N",
        "int quietest(int, int, int, int, int) I A N",
        "int setting(int, int, int) I A",
        "int adjust(int, int, int, int) I A S",
        "int hardness(int, int) I",
        "int felt(int, int) I",
        "int needle(int, int, int) I A S",
        "int harden(int, int, int) I A S",
        "int file(int, int) I U S",
        "int tone(int, int) I N",
        "int uneven(int) I",
        "int play(int, int, int, int) I A U S",
        "int blows(int, int) I",
        "int type(int, int) A S",
        "int wipe()",
        "int perform(int, int) I A U S",
        "int weather(int, int, int) I A S",
        "int moisture(int) I",
        "int limit(int, char, int) I A",
        "boolean isWithin(int, int, char) I A",
        "int worst(int, int) I",
        "int faults(int) I",
        "int fault(int, int) I N",
        "boolean isReady(int) I",
        "int readiest() N",
        "int blame(int, int, char) I A N",
        "int acts()",
        "char actAt(int) I",
        "int pianoOf(int) I",
        "char back() N",
        "int minutes(int) I",
        "long checksum(int) I",
        "float readyShare(int) I",
        "double meanTone(int) I N",
        "boolean isSound()",
    };

    public static void main(String[] args) {
        Class<?> face = Hammerline.class;
        Checks.same("the class", "public final class Hammerline", face.toGenericString());
        Checks.same("constructors", "[public Hammerline()]", List.of(face.getDeclaredConstructors()).toString());
        methods(face);
        fields(face);
        for (Class<?> inside : face.getDeclaredClasses()) {
            Checks.same(inside + " is not shown", false, (inside.getModifiers() & 5) != 0);
            fields(inside);
        }
        namesAreTheFaceAlone(face);
        Checks.end("FaceTest");
    }

    private static String shortly(Method method) {
        String parameters = Stream.of(method.getParameterTypes()).map(Class::getSimpleName)
            .collect(Collectors.joining(", ", "(", ")"));
        StringBuilder text = new StringBuilder(method.getReturnType() + " " + method.getName() + parameters);
        for (Class<?> thrown : method.getExceptionTypes()) {
            String name = thrown.getSimpleName();
            text.append(' ').append(name.startsWith("IllegalA") ? "A" : name.startsWith("IllegalS") ? "S"
                : name.substring(0, 1));
        }
        return text.toString();
    }

    private static void methods(Class<?> face) {
        List<String> shown = new ArrayList<>();
        for (Method method : face.getDeclaredMethods()) {
            int modifiers = method.getModifiers();
            if (!Modifier.isPrivate(modifiers)) {
                Checks.same(method + " is public alone", Modifier.PUBLIC, modifiers);
                shown.add(shortly(method));
            }
        }
        List<String> due = new ArrayList<>(List.of(FACE));
        Collections.sort(due);
        Collections.sort(shown);
        Checks.same("methods", due, shown);
    }

    private static void fields(Class<?> type) {
        for (Field field : type.getDeclaredFields()) {
            int modifiers = field.getModifiers();
            Checks.same(field + " is hidden", true, Modifier.isPrivate(modifiers) || field.isSynthetic());
            Checks.same(field + " is not a state of all", true,
                !Modifier.isStatic(modifiers) || Modifier.isFinal(modifiers));
        }
    }

    private static void namesAreTheFaceAlone(Class<?> face) {
        Set<String> names = new TreeSet<>();
        for (Method method : face.getMethods()) {
            if (method.getDeclaringClass() == face) {
                names.add(method.getName());
            }
        }
        List<Method> hidden = new ArrayList<>(List.of(face.getDeclaredMethods()));
        for (Class<?> inside : face.getDeclaredClasses()) {
            hidden.addAll(List.of(inside.getDeclaredMethods()));
        }
        for (Method method : hidden) {
            if (!Modifier.isPublic(method.getModifiers())) {
                Checks.same(method + " has a name of its own", false, names.contains(method.getName()));
            }
            Checks.same(method + " has seven parameters at most", true, method.getParameterCount() <= 7);
        }
    }
}
