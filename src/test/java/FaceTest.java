import java.lang.reflect.Constructor;
import java.lang.reflect.Field;
import java.lang.reflect.Method;
import java.lang.reflect.Modifier;
import java.util.Arrays;
import java.util.TreeSet;

/** The class shows the document's face and nothing else (LANGUAGE.md, rules 1 and 5). */
public final class FaceTest {
    private static final String[] METHODS = {
        "boolean code(int,int,int,int)", "int input(int,int)", "int deliver(int,int)", "int step(int)",
        "int run(int,int)", "int checkpoint(int)", "boolean crash(int)", "int recover(int)",
        "int register(int,int)", "int state(int,int)", "int sent(int,int)", "int kept(int)",
        "int source(int,int)", "int waiting(int,int)", "int held(int)", "int outputs()",
        "int author(int)", "int output(int)",
    };
    private static final String[] CONSTANTS = {
        "BAD=-1", "DOWN=-2", "NONE=-3", "FULL=-4", "WAITS=0", "DID=1", "END=2",
    };

    public static void main(String[] args) throws IllegalAccessException {
        Due due = new Due("FaceTest");
        due.begin("class");
        due.is("public and final", ReplayGroup.class.getModifiers(), Modifier.PUBLIC | Modifier.FINAL);
        checkConstructors(due);
        checkMethods(due);
        checkFields(due);
        checkClassesInside(due);
        due.end();
    }

    private static void checkConstructors(Due due) {
        due.begin("constructors");
        int open = 0;
        for (Constructor<?> c : ReplayGroup.class.getDeclaredConstructors()) {
            if (!Modifier.isPrivate(c.getModifiers())) {
                open++;
                due.is("modifiers", c.getModifiers(), Modifier.PUBLIC);
                due.is("parameters", c.getParameterCount(), 0);
            }
        }
        due.is("how many", open, 1);
    }

    private static void checkMethods(Due due) {
        due.begin("methods");
        TreeSet<String> open = new TreeSet<>();
        TreeSet<String> openNames = new TreeSet<>();
        for (Method m : ReplayGroup.class.getDeclaredMethods()) {
            if (!Modifier.isPrivate(m.getModifiers())) {
                due.is(m.getName() + " is public", Modifier.isPublic(m.getModifiers()), true);
                due.is(m.getName() + " is static", Modifier.isStatic(m.getModifiers()), false);
                open.add(signature(m));
                openNames.add(m.getName());
            }
        }
        TreeSet<String> want = new TreeSet<>(Arrays.asList(METHODS));
        due.is("open methods " + open + " against " + want, open.equals(want), true);
        for (Method m : ReplayGroup.class.getDeclaredMethods()) {
            if (Modifier.isPrivate(m.getModifiers())) {
                due.is("private " + m.getName() + " bears a public name", openNames.contains(m.getName()), false);
            }
        }
    }

    private static String signature(Method m) {
        StringBuilder text = new StringBuilder(m.getReturnType().getName()).append(' ').append(m.getName()).append('(');
        for (Class<?> type : m.getParameterTypes()) {
            text.append(text.charAt(text.length() - 1) == '(' ? "" : ",").append(type.getName());
        }
        return text.append(')').toString();
    }

    private static void checkFields(Due due) throws IllegalAccessException {
        due.begin("fields");
        TreeSet<String> open = new TreeSet<>();
        for (Field f : ReplayGroup.class.getDeclaredFields()) {
            int modifiers = f.getModifiers();
            if (Modifier.isStatic(modifiers)) {
                due.is("static " + f.getName() + " is final", Modifier.isFinal(modifiers), true);
            }
            if (!Modifier.isPrivate(modifiers)) {
                due.is(f.getName() + " modifiers", modifiers, Modifier.PUBLIC | Modifier.STATIC | Modifier.FINAL);
                due.is(f.getName() + " is an int", f.getType() == int.class, true);
                open.add(f.getName() + "=" + f.getInt(null));
            }
        }
        TreeSet<String> want = new TreeSet<>(Arrays.asList(CONSTANTS));
        due.is("constants " + open + " against " + want, open.equals(want), true);
    }

    private static void checkClassesInside(Due due) {
        due.begin("classes inside");
        for (Class<?> inside : ReplayGroup.class.getDeclaredClasses()) {
            int modifiers = inside.getModifiers();
            due.is(inside.getName() + " is open", Modifier.isPublic(modifiers) || Modifier.isProtected(modifiers), false);
        }
    }
}
