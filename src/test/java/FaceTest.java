import java.lang.reflect.Constructor;
import java.lang.reflect.Field;
import java.lang.reflect.Method;
import java.lang.reflect.Modifier;
import java.util.Arrays;
import java.util.TreeSet;

/** The public face has what the document says, and nothing else. */
public final class FaceTest {
    private static final String[] METHODS = {
        "charge 2", "feed 2", "lime 1", "hours 1", "cloth 1", "dip 3", "treat 2", "put 5", "recipe 2", "fault 1",
        "run 3", "ran 1", "plan 4", "planned 2", "vat 2", "about 2", "count 1", "faded 3", "matching 2",
    };

    public static void main(String[] args) {
        Checks checks = new Checks();
        TreeSet<String> due = new TreeSet<>(Arrays.asList(METHODS));
        TreeSet<String> found = new TreeSet<>();
        for (Method method : VatHouse.class.getDeclaredMethods()) {
            if (!Modifier.isPrivate(method.getModifiers())) {
                found.add(method.getName() + " " + method.getParameterCount());
                isOverInts(checks, method);
            }
        }
        if (!found.equals(due)) {
            checks.tell("methods " + found + ", due are " + due);
        }
        for (Field field : VatHouse.class.getDeclaredFields()) {
            if (!Modifier.isPrivate(field.getModifiers()) && !field.getName().equals("NONE")) {
                checks.tell("a field of the face too many: " + field);
            }
        }
        checks.due("NONE", VatHouse.NONE, -1);
        Constructor<?>[] made = VatHouse.class.getDeclaredConstructors();
        checks.due("constructors", made.length, 1);
        checks.due("its modifiers", made[0].getModifiers(), Modifier.PUBLIC);
        checks.due("the class's modifiers", VatHouse.class.getModifiers(), Modifier.PUBLIC | Modifier.FINAL);
        checks.end();
    }

    private static void isOverInts(Checks checks, Method method) {
        boolean ints = method.getReturnType() == int.class && method.getModifiers() == Modifier.PUBLIC;
        for (Class<?> type : method.getParameterTypes()) {
            ints &= type == int.class;
        }
        if (!ints) {
            checks.tell("not as in the face: " + method);
        }
    }
}
