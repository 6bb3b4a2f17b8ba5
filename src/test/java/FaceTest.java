import java.lang.reflect.Constructor;
import java.lang.reflect.Field;
import java.lang.reflect.Method;
import java.lang.reflect.Modifier;
import java.util.ArrayList;
import java.util.Collections;
import java.util.List;
import java.util.NoSuchElementException;
import java.util.TreeSet;

/** The public face, as the document tells it; rule 1 of LANGUAGE.md. */
public final class FaceTest {
    private static final String[] DUE = {
        "int feed int int int int int", "int valley int", "int fault", "int where",
        "int quarrel int int", "int parties int", "int bound int", "int peace", "int stand", "int feud int",
        "int vigour int int", "int fruits int int", "int first int", "int fallen int", "int suckers int",
        "int quiet int", "int peaceBy", "int worst int", "int spared int int",
        "int odds int int", "int grafted int int int", "int bestGraft int", "int left",
        "long surest boolean", "long takes boolean", "int surestAt int",
        "int prune int int", "int pruneAt int int int", "int feedFor int int", "int feedAgainst int int int",
        "int share int int int", "int game int int int boolean", "int rests int", "int rest int",
        "int ways", "int wayAt int", "int judge", "int year int", "int years int int",
        "int graft int int", "int nourish int int", "int cut int int", "int season",
        "boolean undo", "int image", "boolean back int",
        "int led int throws NoSuchElementException", "int size int", "int trouble",
    };

    public static void main(String[] args) {
        Checks c = new Checks("FaceTest");
        List<String> found = new ArrayList<>();
        TreeSet<String> names = new TreeSet<>();
        for (Method m : GraftQuarrel.class.getDeclaredMethods()) {
            if (Modifier.isPublic(m.getModifiers())) {
                found.add(told(m));
                names.add(m.getName());
            }
        }
        List<String> due = new ArrayList<>(List.of(DUE));
        Collections.sort(due);
        Collections.sort(found);
        if (!due.equals(found)) {
            System.out.println("found " + found);
        }
        c.is("methods of the face are as told", due.equals(found), true);
        checkHidden(c, GraftQuarrel.class, names);
        for (Class<?> inside : GraftQuarrel.class.getDeclaredClasses()) {
            c.is(inside + " is static", Modifier.isStatic(inside.getModifiers()), true);
            c.is(inside + " is hidden",
                    Modifier.isPublic(inside.getModifiers()) || Modifier.isProtected(inside.getModifiers()), false);
            checkHidden(c, inside, names);
        }
        c.is("the class is final", Modifier.isFinal(GraftQuarrel.class.getModifiers()), true);
        Constructor<?>[] made = GraftQuarrel.class.getDeclaredConstructors();
        c.is("constructors", made.length, 1);
        c.is("its parameters", made[0].getParameterCount(), 0);
        c.is("NONE", GraftQuarrel.NONE, -1);
        c.end();
    }

    private static String told(Method m) {
        StringBuilder text = new StringBuilder(m.getReturnType() + " " + m.getName());
        for (Class<?> type : m.getParameterTypes()) {
            text.append(" ").append(type);
        }
        for (Class<?> type : m.getExceptionTypes()) {
            text.append(" throws ").append(type == NoSuchElementException.class ? type.getSimpleName() : type);
        }
        return text.toString();
    }

    private static void checkHidden(Checks c, Class<?> type, TreeSet<String> names) {
        boolean outer = type == GraftQuarrel.class;
        for (Method m : type.getDeclaredMethods()) {
            boolean ofFace = outer && Modifier.isPublic(m.getModifiers());
            if (!ofFace) {
                c.is(type + "." + m.getName() + " bears a name of the face", names.contains(m.getName()), false);
                c.is(m + " is private", !outer || Modifier.isPrivate(m.getModifiers()), true);
            }
        }
        for (Field f : type.getDeclaredFields()) {
            boolean ofFace = outer && f.getName().equals("NONE");
            c.is(f + " is private", !outer || ofFace || Modifier.isPrivate(f.getModifiers()), true);
            c.is(f + " is final if static",
                    !Modifier.isStatic(f.getModifiers()) || Modifier.isFinal(f.getModifiers()), true);
        }
    }
}
