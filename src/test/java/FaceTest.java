import java.lang.reflect.Constructor;
import java.lang.reflect.Field;
import java.lang.reflect.Method;
import java.lang.reflect.Modifier;
import java.util.Arrays;
import java.util.Set;
import java.util.TreeSet;

/**
 * The public face: all that the document names, and nothing else that is not private; and what
 * ../shared/LANGUAGE.md says in its rules 1 and 5 of the members and the classes inside.
 */
public final class FaceTest {
    private static final Due due = new Due();

    private static final String[] CONSTANTS = {
        "UNKNOWN -1", "BAD_SEAL -2", "MISMATCH -3", "LATE -4", "REPEATED -5", "DENIED -6", "FULL -7"};
    private static final String[] METHODS = {
        "int enrol(int)", "boolean remove(int)", "boolean limit(int, int)", "boolean allow(int, int, int)",
        "int save()", "int crash()", "int tick(int, int)", "int login(int, int)", "int ask(int, int)",
        "boolean receive(int, int, int)", "int order(int, int, int, int)", "int issue(int, int, int, int, int)",
        "int grant(int, int, int, int, int)", "int serve(int, int)", "int answer()", "int steal(int)",
        "int learn(int)", "int forge(int, int, int, int, int)", "int seal(int, int)", "int look(int, int)"};

    public static void main(String[] args) throws IllegalAccessException {
        theClass();
        constructors();
        constants();
        methods();
        noPrivateNameIsPublicToo();
        staticFieldsAreFinal();
        classesInside();
        due.end();
    }

    private static void theClass() {
        due.is("the class is public and final", Modifier.PUBLIC | Modifier.FINAL, TicketRealm.class.getModifiers());
        due.is("it has no package", true, TicketRealm.class.getPackageName().isEmpty());
        due.is("it extends nothing", true, TicketRealm.class.getSuperclass() == Object.class);
        due.is("interfaces", 0, TicketRealm.class.getInterfaces().length);
    }

    private static void constructors() {
        Constructor<?>[] all = TicketRealm.class.getDeclaredConstructors();
        due.is("constructors", 1, all.length);
        due.is("the constructor is public", Modifier.PUBLIC, all[0].getModifiers());
        due.is("the constructor takes (int)", true, "(int)".equals(types(all[0].getParameterTypes())));
        due.is("what it throws", 0, all[0].getExceptionTypes().length);
    }

    private static void constants() throws IllegalAccessException {
        Set<String> found = new TreeSet<>();
        for (Field field : TicketRealm.class.getDeclaredFields()) {
            if (!Modifier.isPrivate(field.getModifiers())) {
                due.is(field.getName() + " is public static final",
                        Modifier.PUBLIC | Modifier.STATIC | Modifier.FINAL, field.getModifiers());
                due.is(field.getName() + " is an int", true, field.getType() == int.class);
                found.add(field.getName() + " " + field.get(null));
            }
        }
        same("constants", CONSTANTS, found);
    }

    private static void methods() {
        Set<String> found = new TreeSet<>();
        for (Method method : TicketRealm.class.getDeclaredMethods()) {
            if (!Modifier.isPrivate(method.getModifiers())) {
                due.is(method.getName() + " is public alone", Modifier.PUBLIC, method.getModifiers());
                due.is("what " + method.getName() + " throws", 0, method.getExceptionTypes().length);
                found.add(method.getReturnType() + " " + method.getName() + types(method.getParameterTypes()));
            }
        }
        same("methods", METHODS, found);
    }

    private static void noPrivateNameIsPublicToo() {
        Set<String> open = new TreeSet<>();
        for (Method method : TicketRealm.class.getMethods()) {
            open.add(method.getName());
        }
        for (Method method : TicketRealm.class.getDeclaredMethods()) {
            if (Modifier.isPrivate(method.getModifiers()) && open.contains(method.getName())) {
                due.fault("a private method bears the public name " + method.getName());
            }
        }
    }

    private static void staticFieldsAreFinal() {
        staticFieldsAreFinal(TicketRealm.class);
        for (Class<?> inside : TicketRealm.class.getDeclaredClasses()) {
            staticFieldsAreFinal(inside);
        }
    }

    private static void staticFieldsAreFinal(Class<?> type) {
        for (Field field : type.getDeclaredFields()) {
            if (Modifier.isStatic(field.getModifiers())) {
                due.is(type.getName() + "." + field.getName() + " is final", true,
                        Modifier.isFinal(field.getModifiers()));
            }
        }
    }

    private static void classesInside() {
        for (Class<?> inside : TicketRealm.class.getDeclaredClasses()) {
            int modifiers = inside.getModifiers();
            due.is(inside.getName() + " is static", true, Modifier.isStatic(modifiers));
            due.is(inside.getName() + " is not public or protected", true,
                    (modifiers & (Modifier.PUBLIC | Modifier.PROTECTED)) == 0);
        }
    }

    private static String types(Class<?>[] parameters) {
        return Arrays.toString(parameters).replace('[', '(').replace(']', ')');
    }

    private static void same(String what, String[] wanted, Set<String> found) {
        due.is("the " + what + " " + found + " are those of the face", true,
                found.equals(new TreeSet<>(Arrays.asList(wanted))));
    }
}
