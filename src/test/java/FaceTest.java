import java.lang.reflect.Constructor;
import java.lang.reflect.Field;
import java.lang.reflect.Method;
import java.lang.reflect.Modifier;
import java.util.ArrayList;
import java.util.Collections;
import java.util.List;

/** The public face of the document, and rule 1 of LANGUAGE.md. */
public final class FaceTest {
    private static final String I = "IndexOutOfBoundsException";
    private static final String A = "IllegalArgumentException";
    private static final String U = "UnsupportedOperationException";
    private static final String N = "NoSuchElementException";

    private static final String[] FACE = {
        "int feed(int, int, int, int, int)",
        "boolean end(int)",
        "int kind(int, int, int) " + A + " " + U,
        "int fire(int, int, int) " + I + " " + A + " " + U,
        "int fill(int, int) " + I + " " + A,
        "int ship() " + U,
        "boolean load(int, int, int) " + I,
        "int land(int, int) " + I,
        "int storm(int, int) " + I + " " + A,
        "int look(int, int) " + I + " " + N,
        "int stack(int, int, int) " + I,
        "int tallest(int) " + A,
        "void rate(int, int) " + I + " " + A,
        "int check(int) " + I + " " + A,
        "int fault()",
        "int notes(int, boolean) " + I,
        "int sherd(int, int) " + I + " " + A + " " + U,
        "boolean join(int, int) " + I,
        "int vessels(int) " + I,
        "int vessel(int, int) " + I + " " + N,
        "int tell(int, int, int) " + I + " " + A + " " + U,
        "int bound(int, int, boolean) " + I + " " + A + " " + U,
        "boolean undo(int) " + I,
        "int days(int) " + A,
        "boolean agree(int)",
        "int span(int, boolean, int) " + I + " " + N,
        "int quarrel(int)",
        "int count(int)",
    };

    private static String words(Class<?>[] types, String between) {
        List<String> names = new ArrayList<>();
        for (Class<?> type : types) {
            names.add(type.getSimpleName());
        }
        return String.join(between, names);
    }

    private static String signature(Method m) {
        String head = m.getReturnType().getSimpleName() + " " + m.getName();
        return (head + "(" + words(m.getParameterTypes(), ", ") + ") " + words(m.getExceptionTypes(), " ")).trim();
    }

    public static void main(String[] args) {
        Due due = new Due();
        Class<?> c = AmphoraYard.class;
        due.is("public final", c.getModifiers() & (Modifier.PUBLIC | Modifier.FINAL), Modifier.PUBLIC | Modifier.FINAL);
        due.is("NONE", AmphoraYard.NONE, -1);

        List<String> publicOnes = new ArrayList<>();
        List<String> publicNames = new ArrayList<>();
        for (Method m : c.getDeclaredMethods()) {
            if (Modifier.isPublic(m.getModifiers())) {
                publicOnes.add(signature(m));
                publicNames.add(m.getName());
                due.is("static " + m.getName(), Modifier.isStatic(m.getModifiers()), false);
            }
        }
        List<String> wanted = new ArrayList<>(List.of(FACE));
        Collections.sort(publicOnes);
        Collections.sort(wanted);
        due.is("the face", String.join("\n", publicOnes), String.join("\n", wanted));

        for (Method m : c.getDeclaredMethods()) {
            if (!Modifier.isPublic(m.getModifiers())) {
                due.is("private " + m.getName(), Modifier.isPrivate(m.getModifiers()), true);
                due.is(m.getName() + " bears a public name", publicNames.contains(m.getName()), false);
            }
        }
        for (Field f : c.getDeclaredFields()) {
            due.is("private " + f.getName(), Modifier.isPrivate(f.getModifiers()), !f.getName().equals("NONE"));
        }
        Constructor<?>[] made = c.getDeclaredConstructors();
        due.is("constructors", made.length, 1);
        due.is("its parameters", made[0].getParameterCount(), 0);
        due.is("it is public", Modifier.isPublic(made[0].getModifiers()), true);
        for (Class<?> inside : c.getDeclaredClasses()) {
            due.is("static " + inside.getName(), Modifier.isStatic(inside.getModifiers()), true);
        }
        due.done();
    }
}
