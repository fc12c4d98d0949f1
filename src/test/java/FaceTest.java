import java.lang.reflect.Constructor;
import java.lang.reflect.Field;
import java.lang.reflect.Method;
import java.lang.reflect.Modifier;
import java.util.Arrays;
import java.util.Set;
import java.util.TreeSet;

/** The public face as the document has it, and rule 1 of LANGUAGE.md. */
public final class FaceTest {
    private static final Check T = new Check("face");

    private static final String[] METHODS = {
        "side(int,int,int,int)", "hours(int,int,int)", "told(int,int)", "read(int,boolean)", "pass(int)",
        "best(int,int,int)", "does(int,int,int,int)", "needed(int,int,int)", "sign(int,int,int,int)", "drop(int)",
        "speed(int)", "span(int)", "weighs(int,int)", "quarrels(int)", "piece(int,int)", "sweep()",
        "tolerance(int)", "rows()", "misfit()", "inRow(int)", "sung(int,int,int)",
        "text(int,int,int,int,boolean)", "counts(int,int,int,int)", "may(int,int,int)", "heard(int,int)",
        "days(int,int,int,int)", "copy(int,int)", "copies(int)", "clearest(int)", "total(int)"
    };

    public static void main(String[] args) {
        theConstants();
        theMembers();
        theClassesInside();
        T.end();
    }

    private static void theConstants() {
        T.due("UNKNOWN", WaxVoices.UNKNOWN, -1);
        T.due("BAD", WaxVoices.BAD, -2);
        T.due("STATE", WaxVoices.STATE, -3);
        T.due("FULL", WaxVoices.FULL, -4);
        T.due("NONE", WaxVoices.NONE, -9);
    }

    private static void theMembers() {
        Class<?> face = WaxVoices.class;
        T.holds("public and final", Modifier.isPublic(face.getModifiers()) && Modifier.isFinal(face.getModifiers()));
        Set<String> found = new TreeSet<>();
        Set<String> names = new TreeSet<>();
        for (Method m : face.getDeclaredMethods()) {
            if (Modifier.isPrivate(m.getModifiers())) continue;
            T.holds(m + " is public, of the object and answers an int", Modifier.isPublic(m.getModifiers())
                    && !Modifier.isStatic(m.getModifiers()) && m.getReturnType() == int.class);
            found.add(signature(m));
            names.add(m.getName());
        }
        T.holds("the thirty methods and no other: " + found, found.equals(new TreeSet<>(Arrays.asList(METHODS))));
        for (Method m : face.getDeclaredMethods()) {
            if (Modifier.isPrivate(m.getModifiers())) T.holds(m + " has a name of its own", !names.contains(m.getName()));
        }
        for (Class<?> c : face.getDeclaredClasses()) {
            for (Method m : c.getDeclaredMethods()) T.holds(m + " has a name of its own", !names.contains(m.getName()));
        }
        Set<String> constants = new TreeSet<>();
        for (Field f : face.getDeclaredFields()) {
            if (!Modifier.isPrivate(f.getModifiers())) constants.add(f.getName());
        }
        T.holds("the five constants and no other: " + constants,
                constants.equals(new TreeSet<>(Arrays.asList("UNKNOWN", "BAD", "STATE", "FULL", "NONE"))));
        Constructor<?>[] made = face.getDeclaredConstructors();
        T.holds("one public constructor without parameters", made.length == 1
                && Modifier.isPublic(made[0].getModifiers()) && made[0].getParameterCount() == 0);
    }

    private static String signature(Method m) {
        StringBuilder text = new StringBuilder(m.getName()).append('(');
        for (Class<?> type : m.getParameterTypes()) {
            text.append(text.charAt(text.length() - 1) == '(' ? "" : ",").append(type.getName());
        }
        return text.append(')').toString();
    }

    private static void theClassesInside() {
        for (Class<?> c : WaxVoices.class.getDeclaredClasses()) {
            T.holds(c + " is static and not public", Modifier.isStatic(c.getModifiers())
                    && !Modifier.isPublic(c.getModifiers()) && !Modifier.isProtected(c.getModifiers()));
        }
    }
}
