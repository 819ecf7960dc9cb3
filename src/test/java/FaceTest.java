import java.lang.reflect.Constructor;
import java.lang.reflect.Field;
import java.lang.reflect.Method;
import java.lang.reflect.Modifier;
import java.util.Set;
import java.util.TreeSet;

/** The public face: the document's, and no other visible member (rule 1). */
public final class FaceTest {
    private static final Check c = new Check();

    private static final String[] FACE = {
        "int set(int, int)", "int home(int)", "int visit(int, int)", "int visits(int)", "int resident(int)",
        "int of(int, int)", "int change(int, int, int)", "int go(int)", "int now(int)", "int ahead(int, int, int)",
        "int glad(int, int)", "int sad(int, int)", "int when(int, int)", "int well()", "int longFor(int)",
        "int chairsFor(int, int)", "int volunteersFor(int, int)", "int comeOn(int, int)", "int kindFor(int, int)",
        "int friendFor(int, int)", "int away(int, int)", "int fits(int, int)", "int mood(int, int)",
        "int kinds(int, int)", "int come(int)", "long odds(int, int, int)", "int seed(int)", "int feed(int, int)",
        "int wipe()", "int text()", "int hold(int, int)", "int as(int, int)", "int sheet(int, int, int)",
        "int write(int, int, int)", "int copy(int, int, int, int, int)", "int load(int)", "int judge(int)",
        "int image()", "int undo()", "int tear()", "int count(int)", "int status(int)"};

    public static void main(String[] args) {
        Class<?> face = SundayVisits.class;
        c.due("public and final", face.getModifiers() & (Modifier.PUBLIC | Modifier.FINAL),
            Modifier.PUBLIC | Modifier.FINAL);
        Set<String> due = new TreeSet<>(Set.of(FACE));
        Set<String> found = new TreeSet<>();
        Set<String> names = new TreeSet<>();
        for (Method m : face.getDeclaredMethods()) {
            if (Modifier.isPublic(m.getModifiers())) {
                found.add(written(m));
                names.add(m.getName());
            } else if (!Modifier.isPrivate(m.getModifiers())) {
                c.fail("visible: " + m);
            }
        }
        if (!found.equals(due)) {
            c.fail("the face is " + found + ", due is " + due);
        }
        privateNames(face, names);
        for (Field f : face.getDeclaredFields()) {
            checkField(f);
        }
        Constructor<?>[] makers = face.getDeclaredConstructors();
        c.due("constructors", makers.length, 1);
        c.due("parameters of the constructor", makers[0].getParameterCount(), 0);
        c.due("the constructor is public", Modifier.isPublic(makers[0].getModifiers()) ? 1 : 0, 1);
        for (Class<?> inside : face.getDeclaredClasses()) {
            c.due(inside + " is static", Modifier.isStatic(inside.getModifiers()) ? 1 : 0, 1);
            c.due(inside + " is hidden", inside.getModifiers() & (Modifier.PUBLIC | Modifier.PROTECTED), 0);
            privateNames(inside, names);
        }
        c.end();
    }

    private static String written(Method m) {
        StringBuilder s = new StringBuilder(m.getReturnType() + " " + m.getName() + "(");
        for (int i = 0; i < m.getParameterCount(); i++) {
            s.append(i == 0 ? "" : ", ").append(m.getParameterTypes()[i]);
        }
        return s.append(')').toString();
    }

    private static void privateNames(Class<?> of, Set<String> names) {
        for (Method m : of.getDeclaredMethods()) {
            if (!Modifier.isPublic(m.getModifiers()) && names.contains(m.getName())) {
                c.fail("bears the name of a public one: " + m);
            }
        }
    }

    private static void checkField(Field f) {
        if (!Modifier.isPrivate(f.getModifiers())) {
            c.fail("visible: " + f);
        }
        if (Modifier.isStatic(f.getModifiers()) && !Modifier.isFinal(f.getModifiers())) {
            c.fail("static and not final: " + f);
        }
    }
}
