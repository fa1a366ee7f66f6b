import java.lang.reflect.Constructor;
import java.lang.reflect.Field;
import java.lang.reflect.Method;
import java.lang.reflect.Modifier;
import java.util.Set;
import java.util.StringJoiner;
import java.util.TreeSet;

/** The public face is that of the document, and the class shows no other member. */
public final class FaceTest {
    private static final String[] METHODS = {
        "int type(long,int) throws IllegalArgumentException,UnsupportedOperationException", "int wipe()",
        "int compile()", "int size()", "int instruction(int,int)", "int loops()", "int loop(int,int)",
        "void set(int,int) throws IllegalArgumentException", "void start() throws IllegalStateException",
        "void leaps(boolean)", "int run(int) throws IllegalStateException,IllegalArgumentException",
        "int plain(int) throws IllegalStateException,IllegalArgumentException",
        "int seek(long) throws IllegalStateException,IllegalArgumentException,UnsupportedOperationException",
        "int state()", "int at()", "long steps()", "int counter(int)",
        "int change(int,int) throws IndexOutOfBoundsException,UnsupportedOperationException", "long leap(int)",
    };

    private FaceTest() {
    }

    public static void main(String[] args) {
        Set<String> shown = new TreeSet<>();
        Set<String> names = new TreeSet<>();
        for (Method m : CounterLeaper.class.getDeclaredMethods()) {
            if (!Modifier.isPrivate(m.getModifiers())) {
                shown.add(signature(m));
                names.add(m.getName());
                Check.due(m.getName() + " is public", m.getModifiers(), Modifier.PUBLIC);
            }
        }
        Check.due("the methods " + shown, shown.equals(Set.of(METHODS)) ? 1 : 0, 1);
        fields();
        constructors();
        hiddenNames(names);
        Check.due("the class is public and final", CounterLeaper.class.getModifiers(),
                Modifier.PUBLIC | Modifier.FINAL);
        Check.due("NONE", CounterLeaper.NONE, -1);
        Check.end();
    }

    private static String signature(Method m) {
        String thrown = names(m.getExceptionTypes());
        return m.getReturnType() + " " + m.getName() + "(" + names(m.getParameterTypes()) + ")"
                + (thrown.isEmpty() ? "" : " throws " + thrown);
    }

    private static String names(Class<?>[] types) {
        StringJoiner names = new StringJoiner(",");
        for (Class<?> type : types) {
            names.add(type.getSimpleName());
        }
        return names.toString();
    }

    private static void fields() {
        for (Field f : CounterLeaper.class.getDeclaredFields()) {
            int m = f.getModifiers();
            Check.due("shown: field " + f.getName(), Modifier.isPrivate(m) ? 0 : 1, f.getName().equals("NONE") ? 1 : 0);
            Check.due("static but not final: " + f.getName(), Modifier.isStatic(m) && !Modifier.isFinal(m) ? 1 : 0, 0);
        }
    }

    private static void constructors() {
        Constructor<?>[] made = CounterLeaper.class.getDeclaredConstructors();
        Check.due("constructors", made.length, 1);
        Check.due("their parameters", made[0].getParameterCount(), 0);
        Check.due("they are public", made[0].getModifiers(), Modifier.PUBLIC);
    }

    /** LANGUAGE.md, rule 1: no private method bears the name of a public one. */
    private static void hiddenNames(Set<String> shown) {
        for (Method m : CounterLeaper.class.getDeclaredMethods()) {
            hiddenName(m, shown);
        }
        for (Class<?> inside : CounterLeaper.class.getDeclaredClasses()) {
            for (Method m : inside.getDeclaredMethods()) {
                hiddenName(m, shown);
            }
        }
    }

    private static void hiddenName(Method m, Set<String> shown) {
        boolean taken = Modifier.isPrivate(m.getModifiers()) && shown.contains(m.getName());
        Check.due("a hidden method bears a public name: " + m.getName(), taken ? 1 : 0, 0);
    }
}
