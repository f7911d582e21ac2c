import java.lang.reflect.Constructor;
import java.lang.reflect.Field;
import java.lang.reflect.Method;
import java.lang.reflect.Modifier;
import java.util.Arrays;
import java.util.Set;
import java.util.TreeSet;

/** The members that the class shows: those of the document and no others, and their constants. */
public final class FaceTest {
    private static final String[] METHODS = {
        "int begin(int,int)", "int set(int,int,int,int)", "int base(int)", "int split(int,int,int)", "int run()",
        "int entry(int,int,int)", "int of(int,int)", "int count(int)", "int areSame(int,int)",
        "int power(int,int,int,int)", "int rule(int,int,int,int)", "int partSize(int,int)", "int howMany(int)",
        "int holds()", "int stops()", "int put(long)", "int wipe()", "int fault()", "int undo()", "int save(int)",
        "int restore(int)"};
    private static final String[] CONSTANTS = {
        "NO_SUCH=-1", "BAD_VALUE=-2", "BAD_TEXT=-3", "TOO_MANY=-4", "NOT_POSSIBLE=-5", "NONE=-6"};

    private FaceTest() {
    }

    public static void main(String[] arguments) throws IllegalAccessException {
        Checks checks = new Checks("FaceTest");
        Class<?> desk = PeirceDesk.class;
        checks.due("public and final", desk.getModifiers(), Modifier.PUBLIC | Modifier.FINAL);
        Set<String> methods = new TreeSet<>();
        Set<String> names = new TreeSet<>();
        for (Method method : desk.getDeclaredMethods()) {
            if (!Modifier.isPrivate(method.getModifiers()) && !method.isSynthetic()) {
                checks.due(method + " is public alone", method.getModifiers(), Modifier.PUBLIC);
                methods.add(method.getReturnType() + " " + method.getName() + parameters(method.getParameterTypes()));
                names.add(method.getName());
            }
        }
        same(checks, "methods", methods, METHODS);
        Set<String> constants = new TreeSet<>();
        for (Field field : desk.getDeclaredFields()) {
            if (!Modifier.isPrivate(field.getModifiers())) {
                checks.due(field + " is constant", field.getModifiers(), Modifier.PUBLIC | Modifier.STATIC | Modifier.FINAL);
                constants.add(field.getName() + "=" + field.getInt(null));
            }
        }
        same(checks, "constants", constants, CONSTANTS);
        Constructor<?>[] made = desk.getDeclaredConstructors();
        checks.due("constructors", made.length, 1);
        checks.due("constructor is public", made[0].getModifiers(), Modifier.PUBLIC);
        checks.due("its parameters", made[0].getParameterCount(), 0);
        checks.due("interfaces", desk.getInterfaces().length, 0);
        checks.due("classes inside are at most twelve", Math.max(desk.getDeclaredClasses().length, 12), 12);
        inside(checks, desk, names);
        for (Class<?> each : desk.getDeclaredClasses()) {
            checks.due(each + " is static", each.getModifiers() & Modifier.STATIC, Modifier.STATIC);
            inside(checks, each, names);
        }
        checks.finish();
    }

    /** What LANGUAGE.md asks of each class: names, parameters, fields. */
    private static void inside(Checks checks, Class<?> each, Set<String> names) {
        int fields = 0;
        for (Field field : each.getDeclaredFields()) {
            fields += Modifier.isStatic(field.getModifiers()) ? 0 : 1;
            checks.due(field + " is no static state", field.getModifiers() & (Modifier.STATIC | Modifier.FINAL),
                    field.getModifiers() & Modifier.FINAL | (Modifier.isStatic(field.getModifiers()) ? Modifier.STATIC | Modifier.FINAL : 0));
        }
        checks.due(each + " has at most 20 fields", Math.max(fields, 20), 20);
        for (Method method : each.getDeclaredMethods()) {
            checks.due(method + " has at most 7 parameters", Math.max(method.getParameterCount(), 7), 7);
            if (Modifier.isPrivate(method.getModifiers())) {
                checks.due(method + " has a name of its own", names.contains(method.getName()) ? 1 : 0, 0);
            }
        }
    }

    private static String parameters(Class<?>[] types) {
        StringBuilder text = new StringBuilder("(");
        for (int k = 0; k < types.length; k++) {
            text.append(k == 0 ? "" : ",").append(types[k].getName());
        }
        return text.append(")").toString();
    }

    private static void same(Checks checks, String what, Set<String> got, String[] want) {
        Set<String> due = new TreeSet<>(Arrays.asList(want));
        if (!got.equals(due)) {
            System.out.println(what + ": " + got + ", due are " + due);
        }
        checks.due(what + " as due", got.equals(due) ? 1 : 0, 1);
    }
}
