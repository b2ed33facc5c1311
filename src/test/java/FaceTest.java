import java.lang.reflect.Constructor;
import java.lang.reflect.Field;
import java.lang.reflect.Method;
import java.lang.reflect.Modifier;
import java.util.Arrays;
import java.util.TreeSet;

/** LANGUAGE.md, rules 1, 2, 5: the class has the document's face, and nothing else that can be seen. */
public final class FaceTest {
    private static final String[] FACE = {
        "int type(int)", "int clear()", "int gate()", "int deed(int, int)", "int dead(int, int)", "int bearer(int)",
        "int now(int)", "int lays(int)", "int thumbs(int)", "int adorns(int, int)", "int sins(int, int)",
        "int oils(int)", "int year()", "int undo()", "int order(int)", "int tells(int, int)", "int forget()",
        "int can(int)", "int ask()", "int life(int, int)", "int carry(int, int)", "int odds(int, int, int)",
        "int rate(int, int)", "int keep(int)", "int back(int)", "int count(int)", "long trace()"};
    private static final Check check = new Check();

    public static void main(String[] args) {
        check.promise(0, "the public face");
        Class<?> face = LychWeights.class;
        check.due("public final", Modifier.PUBLIC | Modifier.FINAL, face.getModifiers());
        methods(face);
        constructors(face);
        fields(face);
        for (Class<?> inside : face.getDeclaredClasses()) {
            int modifiers = inside.getModifiers();
            check.due(inside + " is static", 1, Modifier.isStatic(modifiers) ? 1 : 0);
            check.due(inside + " is not public", 0, modifiers & (Modifier.PUBLIC | Modifier.PROTECTED));
            fieldsInside(inside);
            for (Method m : inside.getDeclaredMethods()) {
                check.due(m + " bears a public one's name", 0, isFaceName(m.getName()) ? 1 : 0);
            }
        }
        check.due("classes, twelve at most", 1, face.getDeclaredClasses().length < 12 ? 1 : 0);
        constants();
        check.end();
    }

    private static void methods(Class<?> face) {
        TreeSet<String> found = new TreeSet<>();
        for (Method m : face.getDeclaredMethods()) {
            if (Modifier.isPublic(m.getModifiers())) {
                found.add(told(m));
                check.due(m + " is neither static nor else", Modifier.PUBLIC, m.getModifiers());
            }
        }
        TreeSet<String> due = new TreeSet<>(Arrays.asList(FACE));
        if (!found.equals(due)) {
            System.out.println("found " + found + ", due " + due);
        }
        check.due("the methods are the document's", 1, found.equals(due) ? 1 : 0);
        for (Method m : face.getDeclaredMethods()) {
            if (!Modifier.isPublic(m.getModifiers()) && !m.isSynthetic()) {
                check.due(m + " is private", 1, Modifier.isPrivate(m.getModifiers()) ? 1 : 0);
                check.due(m + " bears a public one's name", 0, isFaceName(m.getName()) ? 1 : 0);
            }
        }
    }

    private static boolean isFaceName(String name) {
        for (String method : FACE) {
            if (method.contains(" " + name + "(")) {
                return true;
            }
        }
        return false;
    }

    private static String told(Method m) {
        StringBuilder s = new StringBuilder(m.getReturnType() + " " + m.getName() + "(");
        for (Class<?> p : m.getParameterTypes()) {
            s.append(s.charAt(s.length() - 1) == '(' ? "" : ", ").append(p);
        }
        return s.append(')').toString();
    }

    private static void constructors(Class<?> face) {
        Constructor<?>[] all = face.getDeclaredConstructors();
        check.due("one constructor", 1, all.length);
        check.due("it is public", Modifier.PUBLIC, all[0].getModifiers());
        check.due("it takes nothing", 0, all[0].getParameterCount());
    }

    private static void fields(Class<?> face) {
        TreeSet<String> found = new TreeSet<>();
        for (Field f : face.getDeclaredFields()) {
            if (Modifier.isPublic(f.getModifiers())) {
                found.add(f.getType() + " " + f.getName());
                check.due(f + " is a constant", 1, Modifier.isStatic(f.getModifiers())
                    && Modifier.isFinal(f.getModifiers()) ? 1 : 0);
            } else {
                check.due(f + " is private", 1, Modifier.isPrivate(f.getModifiers()) ? 1 : 0);
            }
        }
        check.due("the constants are the document's", 1, found.equals(new TreeSet<>(
            Arrays.asList("int BAD", "int STATE", "int FULL", "int NONE", "int NO"))) ? 1 : 0);
        fieldsInside(face);
    }

    private static void fieldsInside(Class<?> inside) {
        int own = 0;
        for (Field f : inside.getDeclaredFields()) {
            if (Modifier.isStatic(f.getModifiers())) {
                check.due(f + " is final", 1, Modifier.isFinal(f.getModifiers()) ? 1 : 0);
            } else {
                own++;
            }
        }
        check.due(inside + " has twenty fields at most", 1, own <= 20 ? 1 : 0);
    }

    private static void constants() {
        check.promise(0, "the constants");
        check.due("BAD", -1, LychWeights.BAD);
        check.due("STATE", -2, LychWeights.STATE);
        check.due("FULL", -3, LychWeights.FULL);
        check.due("NONE", -9, LychWeights.NONE);
        check.due("NO", -1000000, LychWeights.NO);
    }
}
