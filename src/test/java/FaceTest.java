import java.lang.reflect.Constructor;
import java.lang.reflect.Field;
import java.lang.reflect.Method;
import java.lang.reflect.Modifier;
import java.util.Map;
import java.util.NoSuchElementException;
import java.util.TreeMap;

/** The public face of the document (rule 1 of LANGUAGE.md), and promise 1: a new object. */
public final class FaceTest {
    private static final String[] FACE = {
        "int stop(int,int,int,int) NAS", "int coupler(int,int,int) NAS", "boolean key(int,int,boolean) N",
        "boolean knob(int,boolean) N", "boolean tab(int,boolean) N", "boolean full(boolean) ",
        "int press(int,int) N", "int set(int,int) NS", "int level(int) A", "boolean lock(boolean) ",
        "int move(int) A", "int insert() S", "int delete() S", "int pedal(int) A",
        "boolean assign(int,int,boolean) NAS", "int tick(int) A", "int about(int,int) NA",
        "boolean pipe(int,int) N", "boolean lamp(int,int) N", "int commit(int) A", "int boot() ",
        "int spoil(int,int) NS", "int fault(int,int,int) NA", "int test() ", "int count(int) A",
    };

    private static final Check CHECK = new Check();

    public static void main(String[] args) {
        theClass();
        theMethods();
        theFields();
        aNewObject();
        nothingIsThereYet();
        eachObjectIsItsOwn();
        theLastCallIsAnsweredToo();
        CHECK.end("FaceTest");
    }

    private static void theClass() {
        CHECK.due("modifiers", Modifier.PUBLIC | Modifier.FINAL, OrganConsole.class.getModifiers());
        Constructor<?>[] made = OrganConsole.class.getDeclaredConstructors();
        CHECK.due("constructors", 1, made.length);
        CHECK.due("constructor's parameters", 0, made[0].getParameterCount());
        CHECK.yes("constructor is public", Modifier.isPublic(made[0].getModifiers()));
    }

    private static void theMethods() {
        Map<String, String> wanted = new TreeMap<>();
        for (String told : FACE) {
            wanted.put(told.substring(told.indexOf(' ') + 1, told.indexOf('(')), told);
        }
        for (Method method : OrganConsole.class.getDeclaredMethods()) {
            if (Modifier.isPrivate(method.getModifiers())) {
                CHECK.no("a private method bears a public one's name: " + method.getName(), namesPublic(method.getName()));
                continue;
            }
            CHECK.due("modifiers of " + method.getName(), Modifier.PUBLIC, method.getModifiers());
            CHECK.same("face of " + method.getName(), String.valueOf(wanted.remove(method.getName())), told(method));
        }
        CHECK.same("methods that are missing", "[]", wanted.keySet().toString());
    }

    private static boolean namesPublic(String name) {
        for (String told : FACE) {
            if (told.contains(" " + name + "(")) {
                return true;
            }
        }
        return false;
    }

    private static String told(Method method) {
        StringBuilder told = new StringBuilder(method.getReturnType() + " " + method.getName() + "(");
        for (Class<?> type : method.getParameterTypes()) {
            told.append(told.charAt(told.length() - 1) == '(' ? "" : ",").append(type);
        }
        told.append(") ");
        for (Class<?> thrown : method.getExceptionTypes()) {
            told.append(thrown == NoSuchElementException.class ? 'N'
                : thrown == IllegalArgumentException.class ? 'A'
                : thrown == IllegalStateException.class ? 'S' : '?');
        }
        return told.toString();
    }

    private static void theFields() {
        for (Field field : OrganConsole.class.getDeclaredFields()) {
            boolean isNone = field.getName().equals("NONE");
            int wanted = Modifier.PUBLIC | Modifier.STATIC | Modifier.FINAL;
            CHECK.yes("modifiers of " + field.getName(),
                isNone ? field.getModifiers() == wanted : Modifier.isPrivate(field.getModifiers()));
        }
        CHECK.due("NONE", -1, OrganConsole.NONE);
    }

    // "No stops, no couplers, all keys up, no frames, everything sound."
    private static void aNewObject() {
        for (int what = 0; what <= 10; what++) {
            CHECK.due("count " + what, what == 6 || what == 10 ? -1 : 0, new Console().count(what));
        }
        Console x = new Console();
        for (int keyboard = 0; keyboard < 5; keyboard++) {
            for (int k = 0; k < (keyboard == 4 ? 32 : 61); k++) {
                CHECK.no("key " + k + " of keyboard " + keyboard, x.key(keyboard, k, false));
            }
        }
        for (int line = 0; line < 40; line++) {
            CHECK.due("line " + line, 0, x.fault(0, line, 0));
        }
        CHECK.due("test", 0, x.test());
        CHECK.due("level", 0, x.level(0));
        CHECK.due("pedal", 0, x.pedal(0));
        CHECK.no("lock", x.lock(false));
        CHECK.no("full organ", x.full(false));
        CHECK.due("boot", 0, x.boot());
    }

    private static void nothingIsThereYet() {
        Console x = new Console();
        CHECK.refused(x, "knob", NoSuchElementException.class, c -> c.knob(0, true));
        CHECK.refused(x, "about", NoSuchElementException.class, c -> c.about(0, 0));
        CHECK.refused(x, "pipe", NoSuchElementException.class, c -> c.pipe(0, 0));
        CHECK.refused(x, "coil", NoSuchElementException.class, c -> c.fault(1, 0, 0));
        CHECK.refused(x, "assign", NoSuchElementException.class, c -> c.assign(1, 0, true));
        CHECK.refused(x, "tab", NoSuchElementException.class, c -> c.tab(0, true));
        CHECK.refused(x, "press of a frame", NoSuchElementException.class, c -> c.press(2, 0));
        CHECK.refused(x, "move", IllegalArgumentException.class, c -> c.move(1));
        CHECK.refused(x, "delete", IllegalStateException.class, c -> c.delete());
        CHECK.refused(x, "spoil", IllegalStateException.class, c -> c.spoil(0, 0));
    }

    private static void eachObjectIsItsOwn() {
        Console x = Scenes.busy();
        CHECK.alike("a busy object beside it", Looks.of(Scenes::busy), Looks.of(x::twin));
        Console y = new Console();
        CHECK.due("another object has stops of its own", 0, y.count(0));
        y.stop(0, 0, 0, 96);
        y.knob(0, true);
        CHECK.due("the busy object's knob", 0, x.about(0, 0));
    }

    // "An object is used for at most 512 calls after it has been made"
    private static void theLastCallIsAnsweredToo() {
        Console x = Scenes.full();
        int calls = x.callsLeft();
        for (int i = 0; i < calls - 1; i++) {
            CHECK.yes("key", x.key(1, 5, i % 2 == 0));
        }
        CHECK.due("one call is left", 1, x.callsLeft());
        CHECK.due("the last call", 100, x.count(5));
        String more = "a 513th call";
        try {
            x.count(5);
        } catch (AssertionError stopped) {
            more = "none";
        }
        CHECK.same("what tests ask behind it", "none", more);
    }
}
