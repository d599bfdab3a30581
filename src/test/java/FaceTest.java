import java.lang.reflect.Constructor;
import java.lang.reflect.Field;
import java.lang.reflect.Method;
import java.lang.reflect.Modifier;
import java.util.Set;
import java.util.TreeSet;

/** The public face is the document's, and nothing else is to be seen. */
public final class FaceTest {
    private static final String[] METHODS = {
        "int row(int, int)", "int lay(int, int, int)", "int at(int, int)", "int tear(int)",
        "int copy(int, int, int, int, int)", "int mean(int)", "int text(int, int)", "int put(int, int, int)",
        "int fault(int)", "int court(int)", "int way(int, int)", "int mark(int, int)", "int away(int)",
        "int fall(int)", "int night()", "int undo(int)", "int keep(int)", "int on(int)", "int can()",
        "int plans(int)", "int least(int, int)", "int longest(int)", "int goes(int)", "int lasts(int)",
        "int takes(int)", "int rounds(int)", "int lost(int, int)", "int kinds(int, int, int, int)",
        "int strikes(int)", "int odds(int)", "int mid(int)", "int lots(int, int)", "int asked()",
        "long upper()", "long lower()", "int count(int)", "int finding()", "int findings(int)", "long digest()",
    };
    private static final String[] CONSTANTS = {"BAD", "FULL", "FINDING", "STATE", "SPENT", "NONE"};

    public static void main(String[] args) {
        Class<?> face = EveningFalls.class;
        Check.holds("public and final", Modifier.isPublic(face.getModifiers()) && Modifier.isFinal(face.getModifiers()));
        Check.holds("the methods are the document's", methodsOf(face).equals(new TreeSet<>(Set.of(METHODS))));
        Check.holds("the constants are the document's", constantsOf(face).equals(new TreeSet<>(Set.of(CONSTANTS))));
        Constructor<?>[] made = face.getDeclaredConstructors();
        Check.due("constructors", made.length, 1);
        Check.holds("it is public and takes nothing", Modifier.isPublic(made[0].getModifiers()) && made[0].getParameterCount() == 0);
        lookInside(face);
        Check.end();
    }

    private static Set<String> methodsOf(Class<?> face) {
        Set<String> seen = new TreeSet<>();
        for (Method m : face.getDeclaredMethods()) {
            if (Modifier.isPrivate(m.getModifiers()) || m.isSynthetic()) continue;
            StringBuilder s = new StringBuilder(m.getReturnType() + " " + m.getName() + "(");
            for (int i = 0; i < m.getParameterCount(); i++) s.append(i == 0 ? "" : ", ").append(m.getParameterTypes()[i]);
            seen.add(s.append(")").toString());
            Check.holds(m.getName() + " is public", Modifier.isPublic(m.getModifiers()) && !Modifier.isStatic(m.getModifiers()));
        }
        return seen;
    }

    private static Set<String> constantsOf(Class<?> face) {
        Set<String> seen = new TreeSet<>();
        for (Field f : face.getDeclaredFields()) {
            if (Modifier.isPrivate(f.getModifiers())) continue;
            seen.add(f.getName());
            Check.holds(f.getName() + " is a constant", f.getType() == int.class
                    && f.getModifiers() == (Modifier.PUBLIC | Modifier.STATIC | Modifier.FINAL));
        }
        return seen;
    }

    private static void lookInside(Class<?> face) {
        Set<String> open = new TreeSet<>();
        for (Method m : face.getDeclaredMethods()) if (Modifier.isPublic(m.getModifiers())) open.add(m.getName());
        Check.holds("at most twelve classes", face.getDeclaredClasses().length < 12);
        for (Class<?> c : face.getDeclaredClasses()) {
            Check.holds(c + " is static", Modifier.isStatic(c.getModifiers()));
            Check.holds(c + " is not public", !Modifier.isPublic(c.getModifiers()) && !Modifier.isProtected(c.getModifiers()));
            lookAtMethods(c, open);
            lookAtFields(c);
        }
        lookAtMethods(face, open);
        lookAtFields(face);
    }

    private static void lookAtMethods(Class<?> c, Set<String> open) {
        for (Method m : c.getDeclaredMethods()) {
            boolean own = c == EveningFalls.class && Modifier.isPublic(m.getModifiers());
            Check.holds(m + " bears a name of its own", own || !open.contains(m.getName()));
            Check.holds(m + " takes at most seven", m.getParameterCount() <= 7);
        }
    }

    private static void lookAtFields(Class<?> c) {
        int fields = 0;
        for (Field f : c.getDeclaredFields()) {
            if (Modifier.isStatic(f.getModifiers())) Check.holds(f + " is final", Modifier.isFinal(f.getModifiers()));
            else fields++;
        }
        Check.holds(c + " has at most twenty fields", fields <= 20);
    }
}
