import java.lang.reflect.Constructor;
import java.lang.reflect.Field;
import java.lang.reflect.Method;
import java.lang.reflect.Modifier;
import java.util.Set;
import java.util.TreeSet;

/** The face of the class is the document's, and nothing more of it can be seen (LANGUAGE.md, rule 1). */
public final class FaceTest {

    private static final String INDEX = "IndexOutOfBoundsException";
    private static final String ARGUMENT = "IllegalArgumentException";
    private static final String STATE = "IllegalStateException";

    private static final String[] FACE = {
        "int add(int,int) " + ARGUMENT + " " + STATE,
        "int setSpeed(int,int) " + INDEX + " " + ARGUMENT,
        "int setShock(int) " + ARGUMENT,
        "int fighter(int,int) " + INDEX + " " + ARGUMENT,
        "int effect(int,int) " + INDEX + " " + ARGUMENT,
        "int value(int) " + ARGUMENT,
        "int inList(int) " + INDEX,
        "int next() " + STATE,
        "int end() " + STATE,
        "int delay() " + STATE,
        "int comeIn(int) " + INDEX + " " + STATE,
        "int act(int,int,int,int) " + INDEX + " " + ARGUMENT + " " + STATE,
        "int cast(int,int,int,int,int,int) " + INDEX + " " + ARGUMENT + " " + STATE,
        "int settle() " + STATE,
        "int stacked(int,int) " + INDEX + " " + ARGUMENT,
        "boolean mayAnswer(int) " + INDEX,
        "int upcoming(int) " + ARGUMENT,
        "int goneAfter(int) " + INDEX,
        "int lifeSettled()",
        "double vigor()",
        "int append(int) " + ARGUMENT + " " + STATE,
        "int clearText()",
        "int carryOut()",
        "int undo() " + STATE,
        "long digest()",
    };

    public static void main(String[] args) throws Exception {
        Check c = new Check("FaceTest");
        methods(c);
        fieldsAndConstructors(c);
        nestedClasses(c);
        c.finish();
    }

    private static void methods(Check c) {
        Set<String> due = new TreeSet<>(Set.of(FACE));
        Set<String> publicNames = new TreeSet<>();
        Set<String> privateNames = new TreeSet<>();
        Set<String> got = new TreeSet<>();
        for (Method m : SpeedTurns.class.getDeclaredMethods()) {
            if (Modifier.isPrivate(m.getModifiers())) {
                privateNames.add(m.getName());
            } else {
                c.yes("public " + m.getName(), Modifier.isPublic(m.getModifiers()));
                publicNames.add(m.getName());
                got.add(described(m));
            }
        }
        for (Class<?> inner : SpeedTurns.class.getDeclaredClasses()) {
            for (Method m : inner.getDeclaredMethods()) {
                privateNames.add(m.getName());
            }
        }
        c.same("the methods", due.toString(), got.toString());
        privateNames.retainAll(publicNames);
        c.same("inner names that are public ones", "[]", privateNames.toString());
    }

    private static String described(Method m) {
        StringBuilder text = new StringBuilder();
        text.append(m.getReturnType().getName()).append(' ').append(m.getName()).append('(');
        for (int i = 0; i < m.getParameterCount(); i++) {
            text.append(i == 0 ? "" : ",").append(m.getParameterTypes()[i].getName());
        }
        text.append(')');
        for (Class<?> e : m.getExceptionTypes()) {
            text.append(' ').append(e.getSimpleName());
        }
        return text.toString();
    }

    private static void fieldsAndConstructors(Check c) throws Exception {
        c.yes("public class", Modifier.isPublic(SpeedTurns.class.getModifiers()));
        c.yes("final class", Modifier.isFinal(SpeedTurns.class.getModifiers()));
        Constructor<?>[] made = SpeedTurns.class.getDeclaredConstructors();
        c.same("constructors", 1, made.length);
        c.yes("public constructor", Modifier.isPublic(made[0].getModifiers()));
        c.same("constructor's parameters", 0, made[0].getParameterCount());
        for (Field f : SpeedTurns.class.getDeclaredFields()) {
            boolean constant = f.getName().equals("NONE");
            c.yes(f.getName() + " is private or NONE", constant || Modifier.isPrivate(f.getModifiers()));
            c.yes(f.getName() + " is final", Modifier.isFinal(f.getModifiers()));
        }
        c.same("NONE", -1, SpeedTurns.NONE);
        int modifiers = SpeedTurns.class.getField("NONE").getModifiers();
        c.yes("NONE is a constant", Modifier.isStatic(modifiers) && Modifier.isFinal(modifiers));
    }

    private static void nestedClasses(Check c) {
        for (Class<?> inner : SpeedTurns.class.getDeclaredClasses()) {
            c.yes(inner.getName() + " is private", Modifier.isPrivate(inner.getModifiers()));
            c.yes(inner.getName() + " is static", Modifier.isStatic(inner.getModifiers()));
            for (Field f : inner.getDeclaredFields()) {
                boolean fine = !Modifier.isStatic(f.getModifiers()) || Modifier.isFinal(f.getModifiers());
                c.yes(inner.getName() + "." + f.getName() + " is no static state", fine);
            }
        }
    }
}
