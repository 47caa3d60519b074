import java.util.List;
import java.util.function.Consumer;
import java.util.function.Supplier;

/** What the tests of the project share: counting answers that are not due, and calls that must be refused. */
final class Check {
    private int asked = 0;
    private int wrong = 0;

    /** The first number below first .. last and the first above it, and the farthest on both sides. */
    static int[] outside(int first, int last) {
        return new int[] {Integer.MIN_VALUE, first - 1, last + 1, Integer.MAX_VALUE};
    }

    void due(String call, long want, long got) {
        same(call, String.valueOf(want), String.valueOf(got));
    }

    void yes(String call, boolean got) {
        due(call, 1, got ? 1 : 0);
    }

    void no(String call, boolean got) {
        due(call, 0, got ? 1 : 0);
    }

    void same(String call, String want, String got) {
        asked++;
        if (!want.equals(got)) {
            wrong++;
            System.out.println(call + " answered " + got + ", due is " + want);
        }
    }

    /** Both consoles must look alike; if not, the first thing that differs is told. */
    void alike(String call, List<String> want, List<String> got) {
        asked++;
        if (want.equals(got)) {
            return;
        }
        wrong++;
        int at = 0;
        while (at < want.size() && at < got.size() && want.get(at).equals(got.get(at))) {
            at++;
        }
        System.out.println(call + ": then " + entry(got, at) + ", due is " + entry(want, at));
    }

    private static String entry(List<String> looks, int at) {
        return at < looks.size() ? looks.get(at) : "nothing";
    }

    /** The call must throw just this exception, and leave all that can be asked as it was. */
    void refused(Console x, String call, Class<? extends RuntimeException> kind, Consumer<Face> action) {
        same(call, kind.getSimpleName(), outcome(x.twin(), action));
        alike(call + " must change nothing", Looks.of(x::twin), Looks.of(() -> {
            Console touched = x.twin();
            outcome(touched, action);
            return touched;
        }));
    }

    private static String outcome(Face x, Consumer<Face> action) {
        return outcome(() -> {
            action.accept(x);
            return "an answer";
        });
    }

    static String outcome(Supplier<Object> call) {
        try {
            return String.valueOf(call.get());
        } catch (RuntimeException e) {
            return e.getClass().getSimpleName();
        }
    }

    /** Ends the run: exit code 1 if an answer was not due. */
    void end(String name) {
        System.out.println(name + ": " + asked + " answers, " + wrong + " wrong");
        if (wrong != 0 || asked == 0) {
            System.exit(1);
        }
    }
}
