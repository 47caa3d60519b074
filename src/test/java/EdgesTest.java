import java.util.List;
import java.util.function.Consumer;

/**
 * Promises 2 to 26: each call with every mixture of arguments at and beyond the edges, on consoles with
 * nothing there yet, in the midst of play, locked, and with all places taken. The plain console tells what
 * is due; behind each call both must look alike, and as ahead of it if the call was refused.
 */
public final class EdgesTest {
    private static final int LEAST = Integer.MIN_VALUE;
    private static final int MOST = Integer.MAX_VALUE;
    private static final int[] BOTH = {0, 1};
    private static final Check CHECK = new Check();

    /** A call with its arguments in a row. */
    private interface Call {
        Object on(Face x, int[] a);
    }

    private final String name;
    private final Console real;
    private final Console plain;
    private final List<String> before;

    private EdgesTest(String name, Consumer<Console> way) {
        this.name = name;
        this.real = new Console();
        this.plain = new Console(PlainConsole::new);
        way.accept(real);
        way.accept(plain);
        this.before = Looks.of(real::twin);
    }

    public static void main(String[] args) {
        new EdgesTest("bare", x -> { }).run();
        new EdgesTest("busy", Scenes::toBusy).run();
        new EdgesTest("locked", EdgesTest::locked).run();
        new EdgesTest("full", Scenes::toFull).run();
        CHECK.end("EdgesTest");
    }

    private static void locked(Console x) {
        Scenes.toBusy(x);
        x.move(-1);
        x.full(true);
        x.lock(true);
    }

    /** The numbers at the edges of first .. last, within and beyond. */
    private static int[] edges(int first, int last) {
        return new int[] {LEAST, first - 1, first, last, last + 1, MOST};
    }

    private void run() {
        int[] stops = edges(0, real.twin().count(0) - 1);
        int[] frames = edges(0, real.twin().count(5) - 1);
        keysAndStops(stops);
        pistons(frames);
        crescendoAndMagnets(stops);
        memoryAndWires(stops);
    }

    private void keysAndStops(int[] stops) {
        int[] pitches = edges(0, 96);
        int[] tabs = edges(0, real.twin().count(1) - 1);
        each("stop", (x, a) -> x.stop(a[0], a[1], a[2], a[3]), edges(0, 4), edges(-24, 24), pitches, pitches);
        each("coupler", (x, a) -> x.coupler(a[0], a[1], a[2]), edges(0, 4), edges(0, 4), edges(-24, 24));
        int[] keys = {LEAST, -1, 0, 31, 32, 60, 61, MOST};
        each("key", (x, a) -> x.key(a[0], a[1], a[2] == 1), edges(0, 4), keys, BOTH);
        each("knob", (x, a) -> x.knob(a[0], a[1] == 1), stops, BOTH);
        each("tab", (x, a) -> x.tab(a[0], a[1] == 1), tabs, BOTH);
        each("pipe", (x, a) -> x.pipe(a[0], a[1]), stops, edges(0, 96));
    }

    private void pistons(int[] frames) {
        int[] kinds = {LEAST, -1, 0, 1, 2, 3, MOST};
        int[] numbers = {LEAST, -1, 0, 15, 16, 24, 25, frames[3], frames[4], MOST};
        each("press", (x, a) -> x.press(a[0], a[1]), kinds, numbers);
        each("set", (x, a) -> x.set(a[0], a[1]), kinds, numbers);
        each("lamp", (x, a) -> x.lamp(a[0], a[1]), kinds, numbers);
        each("level", (x, a) -> x.level(a[0]), edges(0, 7));
        each("lock", (x, a) -> x.lock(a[0] == 1), BOTH);
        each("move", (x, a) -> x.move(a[0]), new int[] {LEAST, -100, -99, -2, -1, 0, 1, 2, 3, 99, 100, MOST});
        each("insert", (x, a) -> x.insert());
        each("delete", (x, a) -> x.delete());
    }

    private void crescendoAndMagnets(int[] stops) {
        each("full", (x, a) -> x.full(a[0] == 1), BOTH);
        each("pedal", (x, a) -> x.pedal(a[0]), edges(0, 15));
        each("assign", (x, a) -> x.assign(a[0], a[1], a[2] == 1), edges(1, 15), stops, BOTH);
        each("tick", (x, a) -> x.tick(a[0]), new int[] {LEAST, -1, 0, 1, 2, 3, 100, 101, MOST});
        each("about", (x, a) -> x.about(a[0], a[1]), stops, edges(0, 3));
    }

    private void memoryAndWires(int[] stops) {
        each("commit", (x, a) -> x.commit(a[0]), new int[] {LEAST, -1, 0, 1, 8, 9, 10, MOST});
        each("boot", (x, a) -> x.boot());
        each("spoil", (x, a) -> x.spoil(a[0], a[1]), edges(0, 1), edges(0, 8));
        int[] wires = {LEAST, -1, 0, 39, 40, stops[3], stops[4], MOST};
        each("fault", (x, a) -> x.fault(a[0], a[1], a[2]), edges(0, 1), wires, edges(0, 2));
        each("test", (x, a) -> x.test());
        each("count", (x, a) -> x.count(a[0]), edges(0, 10));
    }

    /** The call with every mixture of the arguments. */
    private void each(String called, Call call, int[]... choices) {
        int mixtures = 1;
        for (int[] choice : choices) {
            mixtures *= choice.length;
        }
        for (int mixture = 0; mixture < mixtures; mixture++) {
            int[] arguments = new int[choices.length];
            int rest = mixture;
            for (int i = 0; i < choices.length; i++) {
                arguments[i] = choices[i][rest % choices[i].length];
                rest /= choices[i].length;
            }
            one(called, call, arguments);
        }
    }

    private void one(String called, Call call, int[] arguments) {
        StringBuilder told = new StringBuilder(name).append(": ").append(called);
        for (int argument : arguments) {
            told.append(' ').append(argument);
        }
        String want = outcome(plain.twin(), call, arguments);
        CHECK.same(told.toString(), want, outcome(real.twin(), call, arguments));
        List<String> due = want.endsWith("Exception") ? before : Looks.of(() -> touched(plain, call, arguments));
        CHECK.alike(told.toString(), due, Looks.of(() -> touched(real, call, arguments)));
    }

    private static Console touched(Console x, Call call, int[] arguments) {
        Console twin = x.twin();
        outcome(twin, call, arguments);
        return twin;
    }

    private static String outcome(Console x, Call call, int[] arguments) {
        return Check.outcome(() -> call.on(x, arguments));
    }
}
