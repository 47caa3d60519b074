import java.lang.reflect.Constructor;
import java.lang.reflect.Field;
import java.lang.reflect.Method;
import java.lang.reflect.Modifier;
import java.util.Map;
import java.util.NoSuchElementException;
import java.util.TreeMap;

/** The public face of the document (rule 1 of LANGUAGE.md), and promise 1: a new object. */
public final class FaceTest {
    private static final String[] FACE = {
        "int stop(int,int,int,int) NAS", "int coupler(int,int,int) NAS", "boolean key(int,int,boolean) N",
        "boolean knob(int,boolean) N", "boolean tab(int,boolean) N", "boolean full(boolean) ",
        "int press(int,int) N", "int set(int,int) NS", "int level(int) A", "boolean lock(boolean) ",
        "int move(int) A", "int insert() S", "int delete() S", "int pedal(int) A",
        "boolean assign(int,int,boolean) NAS", "int tick(int) A", "int about(int,int) NA",
        "boolean pipe(int,int) N", "boolean lamp(int,int) N", "int commit(int) A", "int boot() ",
        "int spoil(int,int) NS", "int fault(int,int,int) NA", "int test() ", "int count(int) A",
    };

    private static final Check CHECK = new Check();

    public static void main(String[] args) {
        theClass();
        theMethods();
        theFields();
        aNewObject();
        CHECK.end("FaceTest");
    }

    private static void theClass() {
        CHECK.due("modifiers", Modifier.PUBLIC | Modifier.FINAL, OrganConsole.class.getModifiers());
        Constructor<?>[] made = OrganConsole.class.getDeclaredConstructors();
        CHECK.due("constructors", 1, made.length);
        CHECK.due("constructor's parameters", 0, made[0].getParameterCount());
        CHECK.yes("constructor is public", Modifier.isPublic(made[0].getModifiers()));
    }

    private static void theMethods() {
        Map<String, String> wanted = new TreeMap<>();
        for (String told : FACE) {
            wanted.put(told.substring(told.indexOf(' ') + 1, told.indexOf('(')), told);
        }
        for (Method method : OrganConsole.class.getDeclaredMethods()) {
            if (Modifier.isPrivate(method.getModifiers())) {
                CHECK.no("a private method bears a public one's name: " + method.getName(), namesPublic(method.getName()));
                continue;
            }
            CHECK.due("modifiers of " + method.getName(), Modifier.PUBLIC, method.getModifiers());
            CHECK.same("face of " + method.getName(), String.valueOf(wanted.remove(method.getName())), told(method));
        }
        CHECK.same("methods that are missing", "[]", wanted.keySet().toString());
    }

    private static boolean namesPublic(String name) {
        for (String told : FACE) {
            if (told.contains(" " + name + "(")) {
                return true;
            }
        }
        return false;
    }

    private static String told(Method method) {
        StringBuilder told = new StringBuilder(method.getReturnType() + " " + method.getName() + "(");
        for (Class<?> type : method.getParameterTypes()) {
            told.append(told.charAt(told.length() - 1) == '(' ? "" : ",").append(type);
        }
        told.append(") ");
        for (Class<?> thrown : method.getExceptionTypes()) {
            told.append(thrown == NoSuchElementException.class ? 'N'
                : thrown == IllegalArgumentException.class ? 'A'
                : thrown == IllegalStateException.class ? 'S' : '?');
        }
        return told.toString();
    }

    private static void theFields() {
        for (Field field : OrganConsole.class.getDeclaredFields()) {
            boolean isNone = field.getName().equals("NONE");
            int wanted = Modifier.PUBLIC | Modifier.STATIC | Modifier.FINAL;
            CHECK.yes("modifiers of " + field.getName(),
                isNone ? field.getModifiers() == wanted : Modifier.isPrivate(field.getModifiers()));
        }
        CHECK.due("NONE", -1, OrganConsole.NONE);
    }

    private static void aNewObject() {
        OrganConsole x = new OrganConsole();
        int[] counts = {0, 0, 0, 0, 0, 0, -1, 0, 0, 0, -1};
        for (int what = 0; what < counts.length; what++) {
            CHECK.due("count " + what + " of a new object", counts[what], x.count(what));
        }
        CHECK.due("test of a new object", 0, x.test());
        for (int p = 0; p < 25; p++) {
            CHECK.yes("divisional lamp with no stops", x.lamp(1, p));
            CHECK.yes("general lamp with no stops", x.lamp(0, p % 16));
        }
        CHECK.due("level of a new object", 0, x.level(0));
        CHECK.due("pedal of a new object", 0, x.pedal(0));
        CHECK.no("lock of a new object", x.lock(false));
        CHECK.no("full organ of a new object", x.full(false));
        for (int keyboard = 0; keyboard < 5; keyboard++) {
            CHECK.no("key of a new object", x.key(keyboard, 31, false));
        }
        x.stop(0, 0, 0, 96);
        CHECK.yes("general without a stop in its set", x.lamp(0, 15));
        x.knob(0, true);
        CHECK.no("general without a stop in its set", x.lamp(0, 15));
        OrganConsole y = new OrganConsole();
        CHECK.due("another object has stops of its own", 0, y.count(0));
    }
}
