import java.lang.reflect.Field;
import java.lang.reflect.Method;
import java.lang.reflect.Modifier;
import java.util.Arrays;
import java.util.Set;
import java.util.TreeSet;

/** The public face: all that the document names, and nothing else that is not private. */
public final class FaceTest {
    private static final Due due = new Due();

    private static final String[] FACE = {
        "int enrol 1", "boolean remove 1", "boolean limit 2", "boolean allow 3", "int save 0", "int crash 0",
        "int tick 2", "int login 2", "int ask 2", "boolean receive 3", "int order 4", "int issue 5",
        "int grant 5", "int serve 2", "int answer 0", "int steal 1", "int learn 1", "int forge 5",
        "int seal 2", "int look 2"};

    public static void main(String[] args) {
        constants();
        methods();
        due.is("the class is public and final", Modifier.PUBLIC | Modifier.FINAL, TicketRealm.class.getModifiers());
        due.is("constructors", 1, TicketRealm.class.getDeclaredConstructors().length);
        due.end();
    }

    private static void constants() {
        due.is("UNKNOWN", -1, TicketRealm.UNKNOWN);
        due.is("BAD_SEAL", -2, TicketRealm.BAD_SEAL);
        due.is("MISMATCH", -3, TicketRealm.MISMATCH);
        due.is("LATE", -4, TicketRealm.LATE);
        due.is("REPEATED", -5, TicketRealm.REPEATED);
        due.is("DENIED", -6, TicketRealm.DENIED);
        due.is("FULL", -7, TicketRealm.FULL);
        int visible = 0;
        for (Field field : TicketRealm.class.getDeclaredFields()) {
            if (!Modifier.isPrivate(field.getModifiers())) {
                visible++;
            }
        }
        due.is("fields that are not private", 7, visible);
    }

    private static void methods() {
        Set<String> wanted = new TreeSet<>(Arrays.asList(FACE));
        Set<String> found = new TreeSet<>();
        for (Method method : TicketRealm.class.getDeclaredMethods()) {
            if (!Modifier.isPrivate(method.getModifiers())) {
                due.is(method.getName() + " is public alone", Modifier.PUBLIC, method.getModifiers());
                found.add(method.getReturnType() + " " + method.getName() + " " + method.getParameterCount());
            }
        }
        due.is("the methods " + found + " are those of the face", true, wanted.equals(found));
    }
}
